section
-- ===== PART A: goes FIRST, ahead of the names: the tables' words, and 'selects' of the private methods out of them =====
/-- a private method of a class that the tables say can be made, by its rows of tables_1 -/
def lw_okq (q : MethodName × Nat) : Prop := (q.1.cls ≠ "java/lang/invoke/MethodHandle" ∧ q.1.cls ≠ "java/lang/invoke/VarHandle") ∧ Cond.instantiable q.1.cls q.2 ∈ tables_1 ∧ Cond.privateMethod q.1 ∈ tables_1 ∧ Cond.instanceMethod q.1 ∈ tables_1
theorem lw_p0 : lw_okq (⟨"QuadSnail", "snailNumbered", "(I)LQuadSnail$Snail;"⟩, 6) := ⟨⟨by decide +kernel, by decide +kernel⟩, List.mem_of_getElem? (i := 15) (by decide +kernel), List.mem_of_getElem? (i := 199) (by decide +kernel), List.mem_of_getElem? (i := 200) (by decide +kernel)⟩
theorem lw_p1 : lw_okq (⟨"java/lang/Throwable", "fillInStackTrace", "(I)Ljava/lang/Throwable;"⟩, 6) := ⟨⟨by decide +kernel, by decide +kernel⟩, List.mem_of_getElem? (i := 241) (by decide +kernel), List.mem_of_getElem? (i := 239) (by decide +kernel), List.mem_of_getElem? (i := 240) (by decide +kernel)⟩
theorem lw_p2 : lw_okq (⟨"QuadSnail$Records", "latest", "()LQuadSnail$Garden;"⟩, 6) := ⟨⟨by decide +kernel, by decide +kernel⟩, List.mem_of_getElem? (i := 124) (by decide +kernel), List.mem_of_getElem? (i := 369) (by decide +kernel), List.mem_of_getElem? (i := 370) (by decide +kernel)⟩
theorem lw_p3 : lw_okq (⟨"QuadSnail$Log", "rowOf", "(I)I"⟩, 3) := ⟨⟨by decide +kernel, by decide +kernel⟩, List.mem_of_getElem? (i := 35) (by decide +kernel), List.mem_of_getElem? (i := 393) (by decide +kernel), List.mem_of_getElem? (i := 394) (by decide +kernel)⟩
theorem lw_p4 : lw_okq (⟨"QuadSnail$Log", "write", "(II)V"⟩, 3) := ⟨⟨by decide +kernel, by decide +kernel⟩, List.mem_of_getElem? (i := 35) (by decide +kernel), List.mem_of_getElem? (i := 397) (by decide +kernel), List.mem_of_getElem? (i := 398) (by decide +kernel)⟩
theorem lw_p5 : lw_okq (⟨"QuadSnail$Snail", "move", "(III)V"⟩, 12) := ⟨⟨by decide +kernel, by decide +kernel⟩, List.mem_of_getElem? (i := 29) (by decide +kernel), List.mem_of_getElem? (i := 401) (by decide +kernel), List.mem_of_getElem? (i := 402) (by decide +kernel)⟩
theorem lw_p6 : lw_okq (⟨"QuadSnail$Snail", "book", "(II)V"⟩, 12) := ⟨⟨by decide +kernel, by decide +kernel⟩, List.mem_of_getElem? (i := 29) (by decide +kernel), List.mem_of_getElem? (i := 405) (by decide +kernel), List.mem_of_getElem? (i := 406) (by decide +kernel)⟩
theorem lw_p7 : lw_okq (⟨"QuadSnail$Log", "read", "(II)I"⟩, 3) := ⟨⟨by decide +kernel, by decide +kernel⟩, List.mem_of_getElem? (i := 35) (by decide +kernel), List.mem_of_getElem? (i := 422) (by decide +kernel), List.mem_of_getElem? (i := 423) (by decide +kernel)⟩
def lw_privs_1 : List (MethodName × Nat) := [(⟨"QuadSnail", "snailNumbered", "(I)LQuadSnail$Snail;"⟩, 6), (⟨"java/lang/Throwable", "fillInStackTrace", "(I)Ljava/lang/Throwable;"⟩, 6), (⟨"QuadSnail$Records", "latest", "()LQuadSnail$Garden;"⟩, 6), (⟨"QuadSnail$Log", "rowOf", "(I)I"⟩, 3), (⟨"QuadSnail$Log", "write", "(II)V"⟩, 3), (⟨"QuadSnail$Snail", "move", "(III)V"⟩, 12), (⟨"QuadSnail$Snail", "book", "(II)V"⟩, 12), (⟨"QuadSnail$Log", "read", "(II)I"⟩, 3)]
theorem lw_r1 : ∀ q ∈ lw_privs_1, lw_okq q := List.forall_mem_cons.mpr ⟨lw_p0, List.forall_mem_cons.mpr ⟨lw_p1, List.forall_mem_cons.mpr ⟨lw_p2, List.forall_mem_cons.mpr ⟨lw_p3, List.forall_mem_cons.mpr ⟨lw_p4, List.forall_mem_cons.mpr ⟨lw_p5, List.forall_mem_cons.mpr ⟨lw_p6, List.forall_mem_cons.mpr ⟨lw_p7, fun _ h => absurd h List.not_mem_nil⟩⟩⟩⟩⟩⟩⟩⟩
def lw_privs : List (MethodName × Nat) := lw_privs_1
def lw_tbl : List Cond := k2_sels lw_privs ++ tables_1
theorem lw_privs_ok : ∀ q ∈ lw_privs, lw_okq q := lw_r1
/-- the streams that the claim lets the run draw from -/
abbrev lw_cs : List Choice := [Jvm.Choice.named "NaN.bits"]
theorem lw_bits : nanBits ∈ lw_cs := by first | decide | exact List.mem_cons_self | simp [lw_cs, nanBits]
/-! ===== BEGIN words of one list among another's, by their places ===== -/
theorem goodIn_r {big : List Cond} (ws : List Cond) (ps : List Nat) (hp : ws = ps.filterMap (fun i => big[i]?)) (h : ws.all goodWord = true) : GoodIn big ws := by
  intro w hw
  have h1 := List.all_eq_true.mp h w hw
  rw [hp] at hw
  obtain ⟨i, -, hi⟩ := List.mem_filterMap.mp hw
  have hm : w ∈ big := by first | exact List.mem_of_getElem? hi | exact List.getElem?_mem hi
  exact ⟨hm, good_of_word h1⟩
theorem goodIn_app {big a b : List Cond} (ha : GoodIn big a) (hb : GoodIn big b) : GoodIn big (a ++ b) := fun w h => (List.mem_append.mp h).elim (ha w) (hb w)
theorem goodIn_ca {big a b : List Cond} {c : Cond} (ha : GoodIn big (c :: a)) (hb : GoodIn big b) : GoodIn big (c :: (a ++ b)) := fun w h => (List.mem_cons.mp h).elim (fun e => ha w (List.mem_cons.mpr (Or.inl e))) (fun h => (List.mem_append.mp h).elim (fun h => ha w (List.mem_cons.mpr (Or.inr h))) (hb w))
theorem goodIn_sub {big ws : List Cond} (hm : ∀ w ∈ ws, w ∈ big) (h : ws.all goodWord = true) : GoodIn big ws := fun w hw => ⟨hm w hw, good_of_word (List.all_eq_true.mp h w hw)⟩
/-! ===== END ===== -/

/-! ===== BEGIN exceptions that leave a method, and their catching by the caller (launches without stack traces) ===== -/
section VXA
/-! The laws vx_back, vx_callV, vx_callS, vx_callSW, vx_throw0, vx_throwS follow proofs of the library, with one case more: JvmDerived/Free/Laws.lean (Back.of_free), Shelf42/LK1.lean (callV, callS), Shelf/KitTraced.lean (throwNew0V, throwNewS). -/
/-- where a method has thrown q: the class by its name, the cell, what was written, the world -/
def vx_T (XC : String → State → State → Prop) (st : State) (q : Addr) (t : State) (mc ms : Nat) (free : Addr → Prop) : Prop :=
  ∃ (E : String) (ce : Cell) (L : List Loc), XC E st t ∧ t.heap[q]? = some ce ∧ ce.vm = .none ∧ st.vm.findClass E = some ce.cls ∧ st.WarmedH t.vm ∧ st.sameButNew ({ t with vm := st.vm } : State) L mc ms ∧ ∀ z ∈ L, free z.base
def vx_Q (Qc : Array Value → State → Outcome → State → Prop) (XC : String → State → State → Prop) (mc ms : Nat) (free : Addr → Prop) : Array Value → State → Outcome → State → Prop := fun a st o t =>
  (Qc a st o t ∧ ∃ L, FrameEnd st o t L mc ms ∧ ∀ q ∈ L, free q.base) ∨ ∃ q, o = .threw q ∧ vx_T XC st q t mc ms free
/-- a callee that returns or throws -/
def vx_Met (l : Launch) (y : MethodName) (ws : List Cond) (rm : Room) (Pc : Array Value → State → Prop) (Qc : Array Value → State → Outcome → State → Prop) (XC : String → State → State → Prop) (mc ms : Nat) (free : Addr → Prop) : Prop :=
  MetFree l y (headSpec ws rm) Pc (fun _ _ _ _ _ => True) (vx_Q Qc XC mc ms free)
def vx_Post (XC : String → State → State → Prop) (mc ms : Nat) (free : Addr → Prop) : Pt → Array Value → Addr → Pt → Prop := fun A a q B =>
  ∃ (g : JFrame) (mk : MethodId) (t : State) (L : List Loc) (E : String) (ce : Cell), B.U.heap = t.heap ∧ B.U.vm = t.vm ∧ XC E (A.U.calling g mk a) t ∧ t.heap[q]? = some ce ∧ ce.vm = .none ∧ A.U.vm.findClass E = some ce.cls ∧ B.locs = A.locs ++ L ∧ (∀ z ∈ L, free z.base) ∧ B.cells = A.cells + mc ∧ B.slots = A.slots + ms
def vx_Back (l : Launch) (R : Room) (p : Program) (e : Env) (below : List Frame) (s : State) (sargs : Array Value) (y : MethodName) (len W9 : Nat)
    (Pre : Pt → Array Value → Prop) (Post : Pt → Array Value → Option Value → Pt → Prop) (PostX : Pt → Array Value → Addr → Pt → Prop) : Prop :=
  ∀ (m : MethodId) (meth : Method) (c : Code) (A : Pt) (g : JFrame) (ig : Instr) (mk : MethodId) (a : Array Value),
    Stand p l e R s m sargs below meth c A.U A.locs A.cells A.slots → g.method = m → g.locals.size = c.maxLocals → decode c.code g.pc = .ok (ig, len) →
    2 * g.monitorRoom + (g.stack.map fun v => v.category).sum ≤ W9 → A.U.methodNamed? y = some mk → Pre A a →
    (∃ (v : Option Value) (B : Pt), Stand p l e R s m sargs below meth c B.U B.locs B.cells B.slots ∧ Post A a v B ∧
      Steps p.tables e below (doInvoke e (A.U.setTop g) [] mk a).1 (B.U.setTop { g with pc := g.pc + len, stack := v.toList ++ g.stack })) ∨
    (∃ (q : Addr) (B : Pt), Stand p l e R s m sargs below meth c B.U B.locs B.cells B.slots ∧ PostX A a q B ∧
      Steps p.tables e below (doInvoke e (A.U.setTop g) [] mk a).1 ((B.U.setTop g).pushFrame (.throwing q)))
section Payer
variable {l : Launch} {R : Room} {p : Program} {e : Env} {below : List Frame} {s : State} {sargs : Array Value} {y : MethodName} {len W9 : Nat}
theorem vx_back {ws : List Cond} {rm : Room} {Pc : Array Value → State → Prop} {Qc : Array Value → State → Outcome → State → Prop} {XC : String → State → State → Prop} {mc ms : Nat} {free : Addr → Prop} {bytes : ByteArray} {maxL : Nat} {ret : Option FieldType}
    (hM : vx_Met l y ws rm Pc Qc XC mc ms free) (hblind : FrameBlind Pc) (hrc : rm.cells = mc) (hrs : rm.slots = ms)
    (hframes : rm.frames + 1 ≤ R.frames) (hlocals : W9 + (maxL + 11) + rm.locals ≤ R.locals)
    (hws : ∀ w ∈ ws, ∀ a' U, s.WarmedH U.vm → w.before a' U = true) (hcode : Cond.code y bytes maxL ret ∈ ws) (hinit : ∀ a' U, s.WarmedH U.vm → (Cond.initialized y.cls).before a' U = true) :
    vx_Back l R p e below s sargs y len W9 (PreOf R mc ms Pc) (PostOf Qc mc ms free) (vx_Post XC mc ms free) := by
  intro m meth c A g ig mk a X hg hsize hdg hW hn hp
  have h1 : (headSpec ws rm).pre.before a A.U = true := atoms_intro fun w hw => hws w hw _ _ X.warmed
  have h2 : (Cond.code y bytes maxL ret).before a A.U = true := hws _ hcode _ _ X.warmed
  have h3 : (Cond.initialized y.cls).before a A.U = true := hinit _ _ X.warmed
  have h4 : A.cells + (headSpec ws rm).room.cells ≤ R.cells := by rw [show (headSpec ws rm).room.cells = mc from hrc]; exact hp.1
  have h5 : A.slots + (headSpec ws rm).room.slots ≤ R.slots := by rw [show (headSpec ws rm).room.slots = ms from hrs]; exact hp.2.1
  have hPc : Pc a (A.U.calling g mk a) := hblind _ _ _ _ hp.2.2
  obtain ⟨U, Ls, c0, s0⟩ := A
  dsimp only [Pt.U, Pt.locs, Pt.cells, Pt.slots] at h1 h2 h3 h4 h5 X hn hPc ⊢
  obtain ⟨methY, cY, hmY, hcY, -, hlY, -, -, -, -⟩ := Cond.code_spec hn h2
  obtain ⟨kY, hkY, -⟩ := className_of_methodNamed hn
  have hinitY : kY.init = .initialized := Cond.initialized_spec (findClass_of_methodNamed hn) hkY h3
  have h : At U g.method c below := by rw [hg]; exact X.here
  have hlocals9 : W9 + (maxL + 11) + (headSpec ws rm).room.locals ≤ R.locals := hlocals
  have happ : (headSpec ws rm).appliesLoose y e.platform (U.calling g mk a) = true :=
    Spec.appliesLoose_calling (g := g) h hdg hn hkY hinitY
      (X.room_calling (g := g) (R' := (headSpec ws rm).room) hsize hmY hcY hframes (by rw [hlY]; omega) h4 h5) h1
  obtain ⟨mid, hmid⟩ := h.above
  have hfr : (U.setTop g).frames = (.java g :: mid) ++ below := by rw [State.frames_setTop' g h.top, hmid]; rfl
  obtain ⟨o, s₂, hsteps, -, hend, hq⟩ := Steps.callFree hM p X.admits X.cas X.clock (acts := []) hfr happ hPc trivial
  have hq' : vx_Q Qc XC mc ms free a (U.calling g mk a) o s₂ := hq
  rw [State.frames_setTop' g h.top] at hend
  obtain ⟨g₀, hg0⟩ := Option.isSome_iff_exists.mp h.top
  obtain ⟨r, hr⟩ := State.topJava?_eq_some.mp hg0
  have hr' : (({ U with heap := s₂.heap, slotsUsed := s₂.slotsUsed } : State).setVm s₂.vm).frames = .java g₀ :: r := hr
  rcases hq' with ⟨hqc, L, hfe, hL⟩ | ⟨q, rfl, E, ce, L, hx, hce, hcv, hcl, hW₂, hsm, hL⟩
  · obtain ⟨⟨v, rfl⟩, hW₂, e2, q2, q3, q4, q5, q6⟩ := id hfe
    have e3 : s₂ = ({ (U.calling g mk a).setFrames s₂.frames with heap := s₂.heap, slotsUsed := s₂.slotsUsed } : State).setVm s₂.vm := by
      have : s₂ = ({ s₂ with vm := (U.calling g mk a).vm } : State).setVm s₂.vm := rfl
      rw [e2] at this
      exact this
    obtain ⟨c₂, i₂, len₂, hc₂, hd₂, hf₂⟩ := hend
    have hW' : U.WarmedH s₂.vm := hW₂
    have hcc : c₂ = c := by
      have h1 : s₂.code? g.method = U.code? g.method := by
        rw [State.code?_eq, State.code?_eq, hW'.alike.method?]
      exact Option.some.inj (hc₂.symm.trans (h1.trans h.code))
    subst hcc
    have hlen : len₂ = len := by rw [hdg] at hd₂; cases hd₂; rfl
    subst hlen
    have hs₂ : s₂ = (({ U with heap := s₂.heap, slotsUsed := s₂.slotsUsed } : State).setVm s₂.vm).setTop { g with pc := g.pc + len₂, stack := v.toList ++ g.stack } := by
      refine e3.trans ?_
      rw [hf₂, State.calling_eq h.top, State.setFrames_setFrames, State.setTop_of_frames _ hr', hr]
      rfl
    have hsame : U.sameButNew ({ U with heap := s₂.heap, slotsUsed := s₂.slotsUsed } : State) L mc ms := by
      refine ⟨?_, q2, q3, q4, q5, q6⟩
      obtain ⟨t, ht, -⟩ := State.frames_cons hr
      show ({ U with heap := s₂.heap, slotsUsed := s₂.slotsUsed } : State) = { U.setFrames U.frames with heap := s₂.heap, slotsUsed := s₂.slotsUsed }
      rw [State.setFrames_self ht]
    subst hg
    refine Or.inl ⟨v, ⟨(({ U with heap := s₂.heap, slotsUsed := s₂.slotsUsed } : State).setVm s₂.vm), Ls ++ L, c0 + mc, s0 + ms⟩,
      ⟨X.admits, X.cas, X.clock, X.frames, X.room, X.hears, X.method, X.code, (X.here.setHeapUsed s₂.heap s₂.slotsUsed).setVm hW'.alike, X.tail, State.WarmedH.trans X.warmed hW', X.limits, X.bytes, X.same.trans (hsame.setVm s.vm)⟩,
      ⟨g, mk, s₂, L, rfl, rfl, hqc, rfl, hL, rfl, rfl⟩, ?_⟩
    show Steps p.tables e below _ ((({ U with heap := s₂.heap, slotsUsed := s₂.slotsUsed } : State).setVm s₂.vm).setTop { g with pc := g.pc + len₂, stack := v.toList ++ g.stack })
    rw [← hs₂]
    exact hsteps
  · obtain ⟨e2, q2, q3, q4, q5, q6⟩ := id hsm
    have e3 : s₂ = ({ (U.calling g mk a).setFrames s₂.frames with heap := s₂.heap, slotsUsed := s₂.slotsUsed } : State).setVm s₂.vm := by
      have : s₂ = ({ s₂ with vm := (U.calling g mk a).vm } : State).setVm s₂.vm := rfl
      rw [e2] at this
      exact this
    have hf₂ : s₂.frames = .throwing q :: .java g :: U.frames.tail := hend
    have hW' : U.WarmedH s₂.vm := hW₂
    have hs₂ : s₂ = ((({ U with heap := s₂.heap, slotsUsed := s₂.slotsUsed } : State).setVm s₂.vm).setTop g).pushFrame (.throwing q) := by
      refine e3.trans ?_
      rw [hf₂, State.calling_eq h.top, State.setFrames_setFrames, State.pushFrame, State.frames_setTop _ hr', State.setTop_of_frames _ hr', State.setFrames_setFrames, hr]
      rfl
    have hsame : U.sameButNew ({ U with heap := s₂.heap, slotsUsed := s₂.slotsUsed } : State) L mc ms := by
      refine ⟨?_, q2, q3, q4, q5, q6⟩
      obtain ⟨t, ht, -⟩ := State.frames_cons hr
      show ({ U with heap := s₂.heap, slotsUsed := s₂.slotsUsed } : State) = { U.setFrames U.frames with heap := s₂.heap, slotsUsed := s₂.slotsUsed }
      rw [State.setFrames_self ht]
    subst hg
    refine Or.inr ⟨q, ⟨(({ U with heap := s₂.heap, slotsUsed := s₂.slotsUsed } : State).setVm s₂.vm), Ls ++ L, c0 + mc, s0 + ms⟩,
      ⟨X.admits, X.cas, X.clock, X.frames, X.room, X.hears, X.method, X.code, (X.here.setHeapUsed s₂.heap s₂.slotsUsed).setVm hW'.alike, X.tail, State.WarmedH.trans X.warmed hW', X.limits, X.bytes, X.same.trans (hsame.setVm s.vm)⟩,
      ⟨g, mk, s₂, L, E, ce, rfl, rfl, hx, hce, hcv, hcl, rfl, hL, rfl, rfl⟩, ?_⟩
    show Steps p.tables e below _ (((({ U with heap := s₂.heap, slotsUsed := s₂.slotsUsed } : State).setVm s₂.vm).setTop g).pushFrame (.throwing q))
    rw [← hs₂]
    exact hsteps
end Payer
section Calls
variable {p : Program} {l : Launch} {e : Env} {R : Room} {s : State} {m : MethodId} {args : Array Value} {below : List Frame} {meth : Method} {c : Code} {T : State} {locs : List Loc} {cells slots : Nat}
theorem vx_callV (X : Stand p l e R s m args below meth c T locs cells slots) (hexec : p.tables.exec = Jvm.exec) {own C : String} {index : Nat} {y : MethodName} {bytes : ByteArray} {maxL : Nat} {ret : Option FieldType}
    (hown : s.vm.findClass own = some m.cls) (hlink : (Cond.methodLink own index y).before args s = true) (hinst : (Cond.instanceMethod y).before args s = true) (hsel : (Cond.selects C y y).before args s = true)
    (hcode : (Cond.code y bytes maxL ret).before args s = true) (hy : y.cls ≠ "java/lang/invoke/MethodHandle" ∧ y.cls ≠ "java/lang/invoke/VarHandle")
    {W9 : Nat} {Pre : Pt → Array Value → Prop} {Post : Pt → Array Value → Option Value → Pt → Prop} {PostX : Pt → Array Value → Addr → Pt → Prop} (hK : vx_Back l R p e below s args y 3 W9 Pre Post PostX)
    {b : Addr} {cellB : Cell} (hcell : T.heap[b]? = some cellB) (hobj : cellB.vm.isStatics = false) (hcls : s.vm.findClass C = some cellB.cls)
    {g : JFrame} (hg : g.method = m) (hsize : g.locals.size = c.maxLocals) {argsL rest : List Value} (hlen : ∀ sig, parseMethodDescriptor y.desc = some sig → argsL.length = sig.parameters.length)
    (hstack : g.stack = argsL.reverse ++ .ref b :: rest) (hW : 2 * g.monitorRoom + (rest.map fun v => v.category).sum ≤ W9) (hdg : decode c.code g.pc = .ok (.invokevirtual index, 3))
    (hpre : ∀ vm₁, s.WarmedH vm₁ → Pre ⟨T.setVm vm₁, locs, cells, slots⟩ (Value.ref b :: argsL).toArray) :
    (∃ (v : Option Value) (vm₁ : Vm) (B : Pt), s.WarmedH vm₁ ∧ Stand p l e R s m args below meth c B.U B.locs B.cells B.slots ∧ Post ⟨T.setVm vm₁, locs, cells, slots⟩ (Value.ref b :: argsL).toArray v B ∧
      ∀ target, Steps p.tables e below (B.U.setTop { g with pc := g.pc + 3, stack := v.toList ++ rest }) target → Steps p.tables e below (T.setTop g) target) ∨
    (∃ (q : Addr) (vm₁ : Vm) (B : Pt), s.WarmedH vm₁ ∧ Stand p l e R s m args below meth c B.U B.locs B.cells B.slots ∧ PostX ⟨T.setVm vm₁, locs, cells, slots⟩ (Value.ref b :: argsL).toArray q B ∧
      Steps p.tables e below (T.setTop g) ((B.U.setTop { g with stack := rest }).pushFrame (.throwing q))) := by
  obtain ⟨mk, methM, hnamed, hmethM, hstM, habM⟩ := Cond.instanceMethod_spec hinst
  obtain ⟨methM', cM, hmethM', -, -, -, -, -, -, hsigM⟩ := Cond.code_spec hnamed hcode
  cases hmethM.symm.trans hmethM'
  obtain ⟨c2, r2, m2, q1, q2, q3, q4, kP, hkP, hkPi⟩ := Cond.selects_spec hsel
  cases hcls.symm.trans q1
  cases (State.methodFound?_of_named hnamed hy).symm.trans q2
  cases hnamed.symm.trans q3
  have hselP : selectMethod e.platform s.vm cellB.cls mk = .method mk := by rw [Launch.admits_selectMethod X.admits]; exact q4
  obtain ⟨vm₁, X₁, hstep₁⟩ := X.invokevirtual hexec hown hlink hnamed hmethM hstM hkP hkPi hy (a := b) (cell := cellB) hcell
    (fun z h => by rw [h] at hobj; cases hobj) hselP hmethM habM hkP hkPi (g := g) hg (argsL := argsL) (rest := rest) (hlen _ hsigM) hstack hdg
  rcases hK m meth c ⟨T.setVm vm₁, locs, cells, slots⟩ { g with stack := rest } (.invokevirtual index) mk (Value.ref b :: argsL).toArray X₁ hg hsize hdg hW (X₁.named hnamed) (hpre vm₁ X₁.warmed) with ⟨v, B, X', hpost, hsteps⟩ | ⟨q, B, X', hpost, hsteps⟩
  · exact Or.inl ⟨v, vm₁, B, X₁.warmed, X', hpost, fun target h => hstep₁ _ fun acts => by rw [doInvoke_state]; exact hsteps.trans h⟩
  · exact Or.inr ⟨q, vm₁, B, X₁.warmed, X', hpost, hstep₁ _ fun acts => by rw [doInvoke_state]; exact hsteps⟩
theorem vx_callS (X : Stand p l e R s m args below meth c T locs cells slots) (hexec : p.tables.exec = Jvm.exec) {own : String} {index : Nat} {y : MethodName} {bytes : ByteArray} {maxL : Nat} {ret : Option FieldType}
    (hown : s.vm.findClass own = some m.cls) (hlink : (Cond.methodLink own index y).before args s = true) (hstat : (Cond.static y).before args s = true) (hinit : (Cond.initialized y.cls).before args s = true)
    (hcode : (Cond.code y bytes maxL ret).before args s = true) (hy : y.cls ≠ "java/lang/invoke/MethodHandle" ∧ y.cls ≠ "java/lang/invoke/VarHandle")
    {W9 : Nat} {Pre : Pt → Array Value → Prop} {Post : Pt → Array Value → Option Value → Pt → Prop} {PostX : Pt → Array Value → Addr → Pt → Prop} (hK : vx_Back l R p e below s args y 3 W9 Pre Post PostX)
    {g : JFrame} (hg : g.method = m) (hsize : g.locals.size = c.maxLocals) {argsL rest : List Value} (hlen : ∀ sig, parseMethodDescriptor y.desc = some sig → argsL.length = sig.parameters.length)
    (hstack : g.stack = argsL.reverse ++ rest) (hW : 2 * g.monitorRoom + (rest.map fun v => v.category).sum ≤ W9) (hdg : decode c.code g.pc = .ok (.invokestatic index, 3))
    (hpre : ∀ vm₁, s.WarmedH vm₁ → Pre ⟨T.setVm vm₁, locs, cells, slots⟩ argsL.toArray) :
    (∃ (v : Option Value) (vm₁ : Vm) (B : Pt), s.WarmedH vm₁ ∧ Stand p l e R s m args below meth c B.U B.locs B.cells B.slots ∧ Post ⟨T.setVm vm₁, locs, cells, slots⟩ argsL.toArray v B ∧
      ∀ target, Steps p.tables e below (B.U.setTop { g with pc := g.pc + 3, stack := v.toList ++ rest }) target → Steps p.tables e below (T.setTop g) target) ∨
    (∃ (q : Addr) (vm₁ : Vm) (B : Pt), s.WarmedH vm₁ ∧ Stand p l e R s m args below meth c B.U B.locs B.cells B.slots ∧ PostX ⟨T.setVm vm₁, locs, cells, slots⟩ argsL.toArray q B ∧
      Steps p.tables e below (T.setTop g) ((B.U.setTop { g with stack := rest }).pushFrame (.throwing q))) := by
  obtain ⟨mk, hnamed⟩ := Cond.code_named hcode
  obtain ⟨methM, cM, hmethM, -, -, -, -, -, -, hsigM⟩ := Cond.code_spec hnamed hcode
  have hstatic : methM.isStatic = true := Cond.static_spec hnamed hmethM hstat
  obtain ⟨kP, hkP, -⟩ := className_of_methodNamed hnamed
  have hinitP : kP.init = .initialized := Cond.initialized_spec (findClass_of_methodNamed hnamed) hkP hinit
  obtain ⟨vm₁, X₁, hstep₁⟩ := X.invokestatic hexec hown hlink hnamed hmethM hstatic hkP hinitP hy (g := g) hg (argsL := argsL) (rest := rest) (hlen _ hsigM) hstack hdg
  rcases hK m meth c ⟨T.setVm vm₁, locs, cells, slots⟩ { g with stack := rest } (.invokestatic index) mk argsL.toArray X₁ hg hsize hdg hW (X₁.named hnamed) (hpre vm₁ X₁.warmed) with ⟨v, B, X', hpost, hsteps⟩ | ⟨q, B, X', hpost, hsteps⟩
  · exact Or.inl ⟨v, vm₁, B, X₁.warmed, X', hpost, fun target h => hstep₁ _ fun acts => by rw [doInvoke_state]; exact hsteps.trans h⟩
  · exact Or.inr ⟨q, vm₁, B, X₁.warmed, X', hpost, hstep₁ _ fun acts => by rw [doInvoke_state]; exact hsteps⟩
end Calls
theorem vx_cls {s : State} {T : State} {vm₁ : Vm} {E : String} {k : ClassId} (hW : s.WarmedH vm₁) (h : (T.setVm vm₁).vm.findClass E = some k) : s.vm.findClass E = some k := by
  have h1 : vm₁.findClass E = some k := h
  rw [hW.alike.findClass] at h1
  exact h1
/-- the method's frame g, with q thrown over it -/
def vx_W (p : Program) (l : Launch) (e : Env) (R : Room) (s : State) (m : MethodId) (args : Array Value) (below : List Frame) (meth : Method) (c : Code) (H : Heap) (locs : List Loc) (cells slots : Nat) (Q : State → Prop) (g : JFrame) (q : Addr) : Prop :=
  ∀ T : State, T.heap = H → Stand p l e R s m args below meth c T locs cells slots → ∃ t, Steps p.tables e below ((T.setTop g).pushFrame (.throwing q)) t ∧ Q t
def vx_Run (p : Program) (l : Launch) (e : Env) (R : Room) (s : State) (m : MethodId) (args : Array Value) (below : List Frame) (meth : Method) (c : Code) (H : Heap) (locs : List Loc) (cells slots mc ms : Nat) (g : JFrame) (rest : List Value) (Qa : State → Outcome → State → Prop) (XC : String → State → State → Prop) (free : Addr → Prop) : Prop :=
  ∀ T : State, T.heap = H → Stand p l e R s m args below meth c T locs cells slots →
    (∃ (v : Option Value) (st₀ t T' : State) (L : List Loc), st₀.heap = H ∧ Stand p l e R s m args below meth c T' (locs ++ L) (cells + mc) (slots + ms) ∧ (∀ q ∈ L, free q.base) ∧ T'.heap = t.heap ∧ T'.vm = t.vm ∧ Qa st₀ (.returned v) t ∧
      Goes p e below T g T' { g with pc := g.pc + 3, stack := v.toList ++ rest }) ∨
    (∃ (q : Addr) (st₀ t T' : State) (L : List Loc) (E : String) (ce : Cell), st₀.heap = H ∧ Stand p l e R s m args below meth c T' (locs ++ L) (cells + mc) (slots + ms) ∧ (∀ z ∈ L, free z.base) ∧ T'.heap = t.heap ∧ T'.vm = t.vm ∧ XC E st₀ t ∧ t.heap[q]? = some ce ∧ ce.vm = .none ∧ s.vm.findClass E = some ce.cls ∧
      Steps p.tables e below (T.setTop g) ((T'.setTop { g with stack := rest }).pushFrame (.throwing q)))
def vx_X {S : Type} (px : S → Prop) (B : String → S → State → Prop) (A : Nat → Prop) : String → State → State → Prop := fun E st t => ∃ u : S, px u ∧ B E u t ∧ va_F A st t
section Runs
variable {p : Program} {l : Launch} {e : Env} {R : Room} {s : State} {m : MethodId} {args : Array Value} {below : List Frame} {meth : Method} {c : Code} {H : Heap} {locs : List Loc} {cells slots : Nat}
variable {y : MethodName} {bytes cc : ByteArray} {maxL nL mc ms n index : Nat} {ret : Option FieldType} {ws : List Cond} {rm : Room} {Pc : Array Value → State → Prop} {Qc : Array Value → State → Outcome → State → Prop} {XC : String → State → State → Prop} {free : Addr → Prop} {Ts : List Cond} {own C : String} {b : Addr} {As rest : List Value} {g : JFrame}
theorem vx_callBack (cb : CallB R s args own index y bytes maxL ret ws rm mc ms n) (hM : vx_Met l y ws rm Pc Qc XC mc ms free) (hbl : FrameBlind Pc) : vx_Back l R p e below s args y 3 8 (PreOf R mc ms Pc) (PostOf Qc mc ms free) (vx_Post XC mc ms free) := by
  obtain ⟨hrc, hrs, hfr, hlo, hws, hcw, -, hini, -⟩ := cb
  exact vx_back (bytes := bytes) (maxL := maxL) (ret := ret) hM hbl hrc hrs hfr hlo hws hcw (fun a' U hW => word_at hW (Or.inl (by first | rfl | simp [Cond.onTables, Cond.keeps, Cond.steady])) hini)
theorem vx_runV (S : CallFix p m c cc nL s args Ts own) (hM : vx_Met l y ws rm Pc Qc XC mc ms free) (cw : CallW R s args own C index y bytes maxL ret ws rm mc ms n) (hp : PreV s H C b Pc As)
    (hg : g.method = m) (hn : As.length = n) (hsize : g.locals.size = nL) (hstack : g.stack = As.reverse ++ .ref b :: rest) (hW : 2 * g.monitorRoom + (rest.map fun v => v.category).sum ≤ 8) (hdg : decode cc g.pc = .ok (.invokevirtual index, 3)) (hf : cells + mc ≤ R.cells ∧ slots + ms ≤ R.slots) :
    vx_Run p l e R s m args below meth c H locs cells slots mc ms g rest (Qc (Value.ref b :: As).toArray) XC free := by
  have hK : vx_Back l R p e below s args y 3 8 (PreOf R mc ms Pc) (PostOf Qc mc ms free) (vx_Post XC mc ms free) := vx_callBack cw.1 hM hp.1
  obtain ⟨⟨-, -, -, -, -, -, hcode, -, hy, hlen, hl⟩, hin, hse⟩ := cw
  obtain ⟨hx, hb, hml, ho, -⟩ := S
  obtain ⟨-, ⟨cellB, hcB, hoB, hclB⟩, hPc⟩ := hp
  intro T hT X
  rcases vx_callV X hx (C := C) (bytes := bytes) (maxL := maxL) (ret := ret) ho hl hin hse hcode hy hK (by rw [hT]; exact hcB) hoB hclB hg (hsize.trans hml.symm) (argsL := As) (rest := rest) (fun sig h => hn.trans (hlen sig h)) hstack hW (by rw [hb]; exact hdg)
    (fun vm₁ hW₁ => ⟨hf.1, hf.2, hPc (T.setVm vm₁) hT hW₁⟩) with ⟨v, vm₁, ⟨U', l2, c2, s2⟩, hW₁, X', ⟨g', mk, t, L, e1, e2, hq, h1, hL, h2, h3⟩, st⟩ | ⟨q, vm₁, ⟨U', l2, c2, s2⟩, hW₁, X', ⟨g', mk, t, L, E, ce, e1, e2, hq, hce, hcv, hcl, h1, hL, h2, h3⟩, st⟩
  · dsimp only [Pt.U, Pt.locs, Pt.cells, Pt.slots] at X' e1 e2 h1 h2 h3 st
    subst h1; subst h2; subst h3
    exact Or.inl ⟨v, (T.setVm vm₁).calling g' mk (Value.ref b :: As).toArray, t, U', L, hT, X', hL, e1, e2, hq, st⟩
  · dsimp only [Pt.U, Pt.locs, Pt.cells, Pt.slots] at X' e1 e2 h1 h2 h3 st hcl
    subst h1; subst h2; subst h3
    exact Or.inr ⟨q, (T.setVm vm₁).calling g' mk (Value.ref b :: As).toArray, t, U', L, E, ce, hT, X', hL, e1, e2, hq, hce, hcv, vx_cls hW₁ hcl, st⟩
theorem vx_runS (S : CallFix p m c cc nL s args Ts own) (hM : vx_Met l y ws rm Pc Qc XC mc ms free) (cw : CallB R s args own index y bytes maxL ret ws rm mc ms n ∧ (Cond.static y).before args s = true) (hp : PreS s H Pc As)
    (hg : g.method = m) (hn : As.length = n) (hsize : g.locals.size = nL) (hstack : g.stack = As.reverse ++ rest) (hW : 2 * g.monitorRoom + (rest.map fun v => v.category).sum ≤ 8) (hdg : decode cc g.pc = .ok (.invokestatic index, 3)) (hf : cells + mc ≤ R.cells ∧ slots + ms ≤ R.slots) :
    vx_Run p l e R s m args below meth c H locs cells slots mc ms g rest (Qc As.toArray) XC free := by
  have hK : vx_Back l R p e below s args y 3 8 (PreOf R mc ms Pc) (PostOf Qc mc ms free) (vx_Post XC mc ms free) := vx_callBack cw.1 hM hp.1
  obtain ⟨⟨-, -, -, -, -, -, hcode, hini, hy, hlen, hl⟩, hstt⟩ := cw
  obtain ⟨hx, hb, hml, ho, -⟩ := S
  intro T hT X
  rcases vx_callS X hx (bytes := bytes) (maxL := maxL) (ret := ret) ho hl hstt hini hcode hy hK hg (hsize.trans hml.symm) (argsL := As) (rest := rest) (fun sig h => hn.trans (hlen sig h)) hstack hW (by rw [hb]; exact hdg)
    (fun vm₁ hW₁ => ⟨hf.1, hf.2, hp.2 (T.setVm vm₁) hT hW₁⟩) with ⟨v, vm₁, ⟨U', l2, c2, s2⟩, hW₁, X', ⟨g', mk, t, L, e1, e2, hq, h1, hL, h2, h3⟩, st⟩ | ⟨q, vm₁, ⟨U', l2, c2, s2⟩, hW₁, X', ⟨g', mk, t, L, E, ce, e1, e2, hq, hce, hcv, hcl, h1, hL, h2, h3⟩, st⟩
  · dsimp only [Pt.U, Pt.locs, Pt.cells, Pt.slots] at X' e1 e2 h1 h2 h3 st
    subst h1; subst h2; subst h3
    exact Or.inl ⟨v, (T.setVm vm₁).calling g' mk As.toArray, t, U', L, hT, X', hL, e1, e2, hq, st⟩
  · dsimp only [Pt.U, Pt.locs, Pt.cells, Pt.slots] at X' e1 e2 h1 h2 h3 st hcl
    subst h1; subst h2; subst h3
    exact Or.inr ⟨q, (T.setVm vm₁).calling g' mk As.toArray, t, U', L, E, ce, hT, X', hL, e1, e2, hq, hce, hcv, vx_cls hW₁ hcl, st⟩
end Runs
section Rows
variable {p : Program} {l : Launch} {e : Env} {R : Room} {s : State} {m : MethodId} {args : Array Value} {below : List Frame} {meth : Method} {c : Code} {H : Heap} {locs : List Loc} {cells slots : Nat} {Q : State → Prop}
variable {mc ms : Nat} {free : Addr → Prop} {A0 A1 : Nat → Prop} {H0 : Heap} {a : Array Value} {pc : Nat} {ls : Array Slot} {st0 rest : List Value}
theorem vx_keep {st₀ t T' : State} {L : List Loc} (h0 : st₀.heap = H) (e1 : T'.heap = t.heap) (hS : va_S A0 H0 H locs) (hA : ∀ q, q < H.size → A1 q → A0 q) (hf : ∀ q, free q → A0 q) (hL : ∀ q ∈ L, free q.base) (hF : va_F A1 st₀ t) :
    H.size ≤ T'.heap.size ∧ (∀ q : Nat, q < H.size → ¬ A1 q → T'.heap[q]? = H[q]?) ∧ va_S A0 H0 T'.heap (locs ++ L) := by
  obtain ⟨hz, hk⟩ := hF
  rw [h0] at hz hk
  exact ⟨by rw [e1]; exact hz, fun q h1 h2 => by rw [e1]; exact hk q h1 h2,
    ⟨Nat.le_trans hS.1 (by rw [e1]; exact hz), fun q h1 h2 => by rw [e1, hk q (Nat.lt_of_lt_of_le h1 hS.1) (fun z => h2 (hA q (Nat.lt_of_lt_of_le h1 hS.1) z))]; exact hS.2.1 q h1 h2, fun q hq => by
      rcases List.mem_append.mp hq with h | h
      · exact hS.2.2 q h
      · exact hf _ (hL q h)⟩⟩
theorem vx_calli {S SX : Type} {post : Int32 → S → Prop} {px : SX → Prop} {B : S → State → Prop} {BX : String → SX → State → Prop} {AX : Nat → Prop} (hr : vx_Run p l e R s m args below meth c H locs cells slots mc ms (F0 m pc ls st0) rest (va_Qi post B A1 a) (vx_X px BX AX) free) (hS : va_S A0 H0 H locs) (hA : ∀ q, q < H.size → A1 q → A0 q) (hf : ∀ q, free q → A0 q) (hAX : ∀ q, q < H.size → AX q → A0 q)
    (kx : ∀ (E : String) (ce : Cell) (q9 : Addr) (u : SX) (t : State) (H1 : Heap) (locs1 : List Loc), t.heap = H1 → s.vm.Alike t.vm → px u → BX E u t → H.size ≤ H1.size → (∀ q : Nat, q < H.size → ¬ AX q → H1[q]? = H[q]?) → va_S A0 H0 H1 locs1 → H1[q9]? = some ce → ce.vm = .none → s.vm.findClass E = some ce.cls → vx_W p l e R s m args below meth c H1 locs1 (cells + mc) (slots + ms) Q (F0 m pc ls rest) q9)
    (kk : ∀ (r : Int32) (u : S) (t : State) (H1 : Heap) (locs1 : List Loc), t.heap = H1 → s.vm.Alike t.vm → post r u → B u t → H.size ≤ H1.size → (∀ q : Nat, q < H.size → ¬ A1 q → H1[q]? = H[q]?) → va_S A0 H0 H1 locs1 → W p l e R s m args below meth c H1 locs1 (cells + mc) (slots + ms) Q (F0 m (pc + 3) ls (.int r :: rest))) : W p l e R s m args below meth c H locs cells slots Q (F0 m pc ls st0) := by
  intro T hT X
  rcases hr T hT X with ⟨v, st₀, t, T', L, h0, X', hL, e1, e2, ⟨⟨r, u, hv, hp, hb⟩, hF⟩, st⟩ | ⟨q, st₀, t, T', L, E, ce, h0, X', hL, e1, e2, ⟨u, hp, hb, hF⟩, hce, hcv, hcl, st⟩
  · cases hv
    obtain ⟨k1, k2, k3⟩ := vx_keep h0 e1 hS hA hf hL hF
    obtain ⟨t2, a1, b1⟩ := kk r u t T'.heap (locs ++ L) e1.symm (by rw [← e2]; exact X'.warmed.alike) hp hb k1 k2 k3 T' rfl X'
    exact ⟨t2, st t2 a1, b1⟩
  · obtain ⟨k1, k2, k3⟩ := vx_keep h0 e1 hS hAX hf hL hF
    obtain ⟨t2, a1, b1⟩ := kx E ce q u t T'.heap (locs ++ L) e1.symm (by rw [← e2]; exact X'.warmed.alike) hp hb k1 k2 k3 (by rw [e1]; exact hce) hcv hcl T' rfl X'
    exact ⟨t2, st.trans a1, b1⟩
theorem vx_calll {S SX : Type} {post : Int64 → S → Prop} {px : SX → Prop} {B : S → State → Prop} {BX : String → SX → State → Prop} {AX : Nat → Prop} (hr : vx_Run p l e R s m args below meth c H locs cells slots mc ms (F0 m pc ls st0) rest (va_Ql post B A1 a) (vx_X px BX AX) free) (hS : va_S A0 H0 H locs) (hA : ∀ q, q < H.size → A1 q → A0 q) (hf : ∀ q, free q → A0 q) (hAX : ∀ q, q < H.size → AX q → A0 q)
    (kx : ∀ (E : String) (ce : Cell) (q9 : Addr) (u : SX) (t : State) (H1 : Heap) (locs1 : List Loc), t.heap = H1 → s.vm.Alike t.vm → px u → BX E u t → H.size ≤ H1.size → (∀ q : Nat, q < H.size → ¬ AX q → H1[q]? = H[q]?) → va_S A0 H0 H1 locs1 → H1[q9]? = some ce → ce.vm = .none → s.vm.findClass E = some ce.cls → vx_W p l e R s m args below meth c H1 locs1 (cells + mc) (slots + ms) Q (F0 m pc ls rest) q9)
    (kk : ∀ (r : Int64) (u : S) (t : State) (H1 : Heap) (locs1 : List Loc), t.heap = H1 → s.vm.Alike t.vm → post r u → B u t → H.size ≤ H1.size → (∀ q : Nat, q < H.size → ¬ A1 q → H1[q]? = H[q]?) → va_S A0 H0 H1 locs1 → W p l e R s m args below meth c H1 locs1 (cells + mc) (slots + ms) Q (F0 m (pc + 3) ls (.long r :: rest))) : W p l e R s m args below meth c H locs cells slots Q (F0 m pc ls st0) := by
  intro T hT X
  rcases hr T hT X with ⟨v, st₀, t, T', L, h0, X', hL, e1, e2, ⟨⟨r, u, hv, hp, hb⟩, hF⟩, st⟩ | ⟨q, st₀, t, T', L, E, ce, h0, X', hL, e1, e2, ⟨u, hp, hb, hF⟩, hce, hcv, hcl, st⟩
  · cases hv
    obtain ⟨k1, k2, k3⟩ := vx_keep h0 e1 hS hA hf hL hF
    obtain ⟨t2, a1, b1⟩ := kk r u t T'.heap (locs ++ L) e1.symm (by rw [← e2]; exact X'.warmed.alike) hp hb k1 k2 k3 T' rfl X'
    exact ⟨t2, st t2 a1, b1⟩
  · obtain ⟨k1, k2, k3⟩ := vx_keep h0 e1 hS hAX hf hL hF
    obtain ⟨t2, a1, b1⟩ := kx E ce q u t T'.heap (locs ++ L) e1.symm (by rw [← e2]; exact X'.warmed.alike) hp hb k1 k2 k3 (by rw [e1]; exact hce) hcv hcl T' rfl X'
    exact ⟨t2, st.trans a1, b1⟩
theorem vx_callf {S SX : Type} {post : UInt32 → S → Prop} {px : SX → Prop} {B : S → State → Prop} {BX : String → SX → State → Prop} {AX : Nat → Prop} (hr : vx_Run p l e R s m args below meth c H locs cells slots mc ms (F0 m pc ls st0) rest (va_Qf post B A1 a) (vx_X px BX AX) free) (hS : va_S A0 H0 H locs) (hA : ∀ q, q < H.size → A1 q → A0 q) (hf : ∀ q, free q → A0 q) (hAX : ∀ q, q < H.size → AX q → A0 q)
    (kx : ∀ (E : String) (ce : Cell) (q9 : Addr) (u : SX) (t : State) (H1 : Heap) (locs1 : List Loc), t.heap = H1 → s.vm.Alike t.vm → px u → BX E u t → H.size ≤ H1.size → (∀ q : Nat, q < H.size → ¬ AX q → H1[q]? = H[q]?) → va_S A0 H0 H1 locs1 → H1[q9]? = some ce → ce.vm = .none → s.vm.findClass E = some ce.cls → vx_W p l e R s m args below meth c H1 locs1 (cells + mc) (slots + ms) Q (F0 m pc ls rest) q9)
    (kk : ∀ (r : UInt32) (u : S) (t : State) (H1 : Heap) (locs1 : List Loc), t.heap = H1 → s.vm.Alike t.vm → post r u → B u t → H.size ≤ H1.size → (∀ q : Nat, q < H.size → ¬ A1 q → H1[q]? = H[q]?) → va_S A0 H0 H1 locs1 → W p l e R s m args below meth c H1 locs1 (cells + mc) (slots + ms) Q (F0 m (pc + 3) ls (.float r :: rest))) : W p l e R s m args below meth c H locs cells slots Q (F0 m pc ls st0) := by
  intro T hT X
  rcases hr T hT X with ⟨v, st₀, t, T', L, h0, X', hL, e1, e2, ⟨⟨r, u, hv, hp, hb⟩, hF⟩, st⟩ | ⟨q, st₀, t, T', L, E, ce, h0, X', hL, e1, e2, ⟨u, hp, hb, hF⟩, hce, hcv, hcl, st⟩
  · cases hv
    obtain ⟨k1, k2, k3⟩ := vx_keep h0 e1 hS hA hf hL hF
    obtain ⟨t2, a1, b1⟩ := kk r u t T'.heap (locs ++ L) e1.symm (by rw [← e2]; exact X'.warmed.alike) hp hb k1 k2 k3 T' rfl X'
    exact ⟨t2, st t2 a1, b1⟩
  · obtain ⟨k1, k2, k3⟩ := vx_keep h0 e1 hS hAX hf hL hF
    obtain ⟨t2, a1, b1⟩ := kx E ce q u t T'.heap (locs ++ L) e1.symm (by rw [← e2]; exact X'.warmed.alike) hp hb k1 k2 k3 (by rw [e1]; exact hce) hcv hcl T' rfl X'
    exact ⟨t2, st.trans a1, b1⟩
theorem vx_calld {S SX : Type} {post : UInt64 → S → Prop} {px : SX → Prop} {B : S → State → Prop} {BX : String → SX → State → Prop} {AX : Nat → Prop} (hr : vx_Run p l e R s m args below meth c H locs cells slots mc ms (F0 m pc ls st0) rest (va_Qd post B A1 a) (vx_X px BX AX) free) (hS : va_S A0 H0 H locs) (hA : ∀ q, q < H.size → A1 q → A0 q) (hf : ∀ q, free q → A0 q) (hAX : ∀ q, q < H.size → AX q → A0 q)
    (kx : ∀ (E : String) (ce : Cell) (q9 : Addr) (u : SX) (t : State) (H1 : Heap) (locs1 : List Loc), t.heap = H1 → s.vm.Alike t.vm → px u → BX E u t → H.size ≤ H1.size → (∀ q : Nat, q < H.size → ¬ AX q → H1[q]? = H[q]?) → va_S A0 H0 H1 locs1 → H1[q9]? = some ce → ce.vm = .none → s.vm.findClass E = some ce.cls → vx_W p l e R s m args below meth c H1 locs1 (cells + mc) (slots + ms) Q (F0 m pc ls rest) q9)
    (kk : ∀ (r : UInt64) (u : S) (t : State) (H1 : Heap) (locs1 : List Loc), t.heap = H1 → s.vm.Alike t.vm → post r u → B u t → H.size ≤ H1.size → (∀ q : Nat, q < H.size → ¬ A1 q → H1[q]? = H[q]?) → va_S A0 H0 H1 locs1 → W p l e R s m args below meth c H1 locs1 (cells + mc) (slots + ms) Q (F0 m (pc + 3) ls (.double r :: rest))) : W p l e R s m args below meth c H locs cells slots Q (F0 m pc ls st0) := by
  intro T hT X
  rcases hr T hT X with ⟨v, st₀, t, T', L, h0, X', hL, e1, e2, ⟨⟨r, u, hv, hp, hb⟩, hF⟩, st⟩ | ⟨q, st₀, t, T', L, E, ce, h0, X', hL, e1, e2, ⟨u, hp, hb, hF⟩, hce, hcv, hcl, st⟩
  · cases hv
    obtain ⟨k1, k2, k3⟩ := vx_keep h0 e1 hS hA hf hL hF
    obtain ⟨t2, a1, b1⟩ := kk r u t T'.heap (locs ++ L) e1.symm (by rw [← e2]; exact X'.warmed.alike) hp hb k1 k2 k3 T' rfl X'
    exact ⟨t2, st t2 a1, b1⟩
  · obtain ⟨k1, k2, k3⟩ := vx_keep h0 e1 hS hAX hf hL hF
    obtain ⟨t2, a1, b1⟩ := kx E ce q u t T'.heap (locs ++ L) e1.symm (by rw [← e2]; exact X'.warmed.alike) hp hb k1 k2 k3 (by rw [e1]; exact hce) hcv hcl T' rfl X'
    exact ⟨t2, st.trans a1, b1⟩
theorem vx_callv {S SX : Type} {post : S → Prop} {px : SX → Prop} {B : S → State → Prop} {BX : String → SX → State → Prop} {AX : Nat → Prop} (hr : vx_Run p l e R s m args below meth c H locs cells slots mc ms (F0 m pc ls st0) rest (va_Qv post B A1 a) (vx_X px BX AX) free) (hS : va_S A0 H0 H locs) (hA : ∀ q, q < H.size → A1 q → A0 q) (hf : ∀ q, free q → A0 q) (hAX : ∀ q, q < H.size → AX q → A0 q)
    (kx : ∀ (E : String) (ce : Cell) (q9 : Addr) (u : SX) (t : State) (H1 : Heap) (locs1 : List Loc), t.heap = H1 → s.vm.Alike t.vm → px u → BX E u t → H.size ≤ H1.size → (∀ q : Nat, q < H.size → ¬ AX q → H1[q]? = H[q]?) → va_S A0 H0 H1 locs1 → H1[q9]? = some ce → ce.vm = .none → s.vm.findClass E = some ce.cls → vx_W p l e R s m args below meth c H1 locs1 (cells + mc) (slots + ms) Q (F0 m pc ls rest) q9)
    (kk : ∀ (u : S) (t : State) (H1 : Heap) (locs1 : List Loc), t.heap = H1 → s.vm.Alike t.vm → post u → B u t → H.size ≤ H1.size → (∀ q : Nat, q < H.size → ¬ A1 q → H1[q]? = H[q]?) → va_S A0 H0 H1 locs1 → W p l e R s m args below meth c H1 locs1 (cells + mc) (slots + ms) Q (F0 m (pc + 3) ls (rest))) : W p l e R s m args below meth c H locs cells slots Q (F0 m pc ls st0) := by
  intro T hT X
  rcases hr T hT X with ⟨v, st₀, t, T', L, h0, X', hL, e1, e2, ⟨⟨u, hv, hp, hb⟩, hF⟩, st⟩ | ⟨q, st₀, t, T', L, E, ce, h0, X', hL, e1, e2, ⟨u, hp, hb, hF⟩, hce, hcv, hcl, st⟩
  · cases hv
    obtain ⟨k1, k2, k3⟩ := vx_keep h0 e1 hS hA hf hL hF
    obtain ⟨t2, a1, b1⟩ := kk u t T'.heap (locs ++ L) e1.symm (by rw [← e2]; exact X'.warmed.alike) hp hb k1 k2 k3 T' rfl X'
    exact ⟨t2, st t2 a1, b1⟩
  · obtain ⟨k1, k2, k3⟩ := vx_keep h0 e1 hS hAX hf hL hF
    obtain ⟨t2, a1, b1⟩ := kx E ce q u t T'.heap (locs ++ L) e1.symm (by rw [← e2]; exact X'.warmed.alike) hp hb k1 k2 k3 (by rw [e1]; exact hce) hcv hcl T' rfl X'
    exact ⟨t2, st.trans a1, b1⟩
/-- caught by the row x of this method's table; the rows ahead don't take it -/
theorem vx_catch {own name : String} {E : String} {ce : Cell} {q : Addr} (hown : s.vm.findClass own = some m.cls) (pre : List ExceptionTableEntry) (x : ExceptionTableEntry) (suf : List ExceptionTableEntry) (hsplit : c.exceptionTable.toList = pre ++ x :: suf)
    (hpass : ∀ z ∈ pre, covers z pc = false ∨ (z.catchType ≠ 0 ∧ ∃ nm : String, (Cond.classLink own z.catchType nm).before args s = true ∧ va_Nc E nm s)) (hx : covers x pc = true) (h0 : x.catchType ≠ 0)
    (hlink : (Cond.classLink own x.catchType name).before args s = true) (hcast : (Cond.castable E name).before args s = true) (hcell : H[q]? = some ce) (hv : ce.vm = .none) (hcl : s.vm.findClass E = some ce.cls)
    (kk : W p l e R s m args below meth c H locs cells slots Q (F0 m x.handlerPc ls [.ref q])) : vx_W p l e R s m args below meth c H locs cells slots Q (F0 m pc ls rest) q := by
  intro T hT X
  have hpl : e.platform.magicAccessors = ({} : Platform).magicAccessors := by rw [X.admits.platform]
  obtain ⟨c3, c4, hc3, hc4, hasg⟩ := Cond.castable_spec hcast
  cases Option.some.inj (hc3.symm.trans hcl)
  obtain ⟨c5, hc5, hcl5⟩ := Cond.classLink_spec hown hlink e.platform hpl
  cases Option.some.inj (hc4.symm.trans hc5)
  obtain ⟨vm', X', st⟩ := X.thenCaughtThrough q (g := F0 m pc ls rest) rfl (Steps.refl _) (by rw [hT]; exact hcell) (by rw [hv]; rfl) (by obtain ⟨k9, h9, -⟩ := Vm.findClass_spec hcl; exact ⟨k9, h9⟩) pre x suf hsplit
    (fun z hz => by
      rcases hpass z hz with h | ⟨hz0, nm, hl1, hn1⟩
      · exact Or.inl h
      · obtain ⟨c6, hc6, hcl6⟩ := Cond.classLink_spec hown hl1 e.platform hpl
        obtain ⟨a8, b8, h1, h2, h3⟩ := hn1
        cases Option.some.inj (h1.symm.trans hcl)
        cases Option.some.inj (h2.symm.trans hc6)
        exact Or.inr ⟨hz0, _, hcl6, h3⟩) hx (Or.inr ⟨h0, c4, hcl5, hasg⟩)
  obtain ⟨t, a1, b1⟩ := kk (T.setVm vm') hT X'
  exact ⟨t, st.trans a1, b1⟩
end Rows
section Ends
variable {p : Program} {l : Launch} {e : Env} {R : Room} {s : State} {m : MethodId} {args : Array Value} {below : List Frame} {meth : Method} {c : Code} {H : Heap} {locs : List Loc} {cells slots : Nat} {Q : State → Prop}
variable {mc ms : Nat} {free : Addr → Prop} {A0 A1 : Nat → Prop} {H0 : Heap} {a : Array Value} {ls : Array Slot} {st0 rest : List Value}
variable {Qc : Array Value → State → Outcome → State → Prop} {XC : String → State → State → Prop}
/-- what a body that may throw owes at its end -/
def vx_MQ (below : List Frame) (Qc : Array Value → State → Outcome → State → Prop) (XC : String → State → State → Prop) (a : Array Value) (s : State) (mc ms : Nat) (free : Addr → Prop) : State → Prop := fun t =>
  ∃ o, t.status = .running ∧ Ended t below o ∧ vx_Q Qc XC mc ms free a s o t
theorem vx_ret {g : JFrame} {mc ms : Nat} (k : W p l e R s m args below meth c H locs cells slots (MQ below Qc args s mc ms free) g) : W p l e R s m args below meth c H locs cells slots (vx_MQ below Qc XC args s mc ms free) g := by
  intro T hT X
  obtain ⟨t, a1, o, b1, b2, b3, b4⟩ := k T hT X
  exact ⟨t, a1, o, b1, b2, Or.inl ⟨b3, b4⟩⟩
/-- not caught here: it goes on to the caller -/
theorem vx_widen {g : JFrame} {q : Addr} {k n : Nat} (h1 : cells ≤ k) (h2 : slots ≤ n) (kk : vx_W p l e R s m args below meth c H locs k n Q g q) : vx_W p l e R s m args below meth c H locs cells slots Q g q := fun T hT X => kk T hT (stand_widen X h1 h2)
theorem vx_out {pc : Nat} {E : String} {ce : Cell} {q : Addr} {mc ms : Nat} (hout : ∀ x ∈ c.exceptionTable.toList, covers x pc = false) (hlocks : meth.locks = false) (hcell : H[q]? = some ce) (hv : ce.vm = .none) (hcl : s.vm.findClass E = some ce.cls)
    (hx : ∀ t : State, t.heap = H → s.vm.Alike t.vm → XC E s t) (hf : ∀ z ∈ locs, free z.base) (hc : cells ≤ mc) (hs : slots ≤ ms) :
    vx_W p l e R s m args below meth c H locs cells slots (vx_MQ below Qc XC args s mc ms free) (F0 m pc ls rest) q := by
  intro T hT X
  obtain ⟨st1, hrun, hend, hW, hsm⟩ := X.leaveThrown q (g := F0 m pc ls rest) rfl rfl rfl hout hlocks
  have hcell9 : (T.setFrames (.throwing q :: below)).heap[q]? = some ce := by
    show T.heap[q]? = some ce
    rw [hT]; exact hcell
  exact ⟨_, st1, .threw q, hrun, hend, Or.inr ⟨q, rfl, E, ce, locs, hx _ hT hW.alike, hcell9, hv, hcl, hW, hsm.mono hc hs, hf⟩⟩
theorem vx_frame {U : State} {k n : Nat} (h : s.sameButNew ({ U with vm := s.vm } : State) locs k n) : s.heap.size ≤ U.heap.size ∧ ∀ q : Nat, q < s.heap.size → (∀ z ∈ locs, z.base ≠ q) → U.heap[q]? = s.heap[q]? := by
  obtain ⟨-, h2, -, -, -, h6⟩ := h
  refine ⟨h2, fun q hq hz => ?_⟩
  obtain ⟨c9, e1, e2, e3, e4⟩ := h6 q _ (Array.getElem?_eq_getElem hq)
  have hs : c9.slots = (s.heap[q]).slots := Array.ext_getElem? fun i => e4 i fun hm => hz _ hm rfl
  have h9 : c9 = s.heap[q] := by
    rw [hs] at e2
    exact e2
  have e5 : U.heap[q]? = some c9 := e1
  rw [e5, h9, Array.getElem?_eq_getElem hq]
/-- the words of a throw but the four that speak of the heap -/
def vx_no (w : Cond) : Bool := decide (w ≠ .isRef (.static Bundle.tN "UNASSIGNED_STACK" Bundle.steD)) && decide (w ≠ .isRef (.static Bundle.tN "SUPPRESSED_SENTINEL" Bundle.listD)) && decide (w ≠ .laysStatic Bundle.tN "UNASSIGNED_STACK" Bundle.steD) && decide (w ≠ .laysStatic Bundle.tN "SUPPRESSED_SENTINEL" Bundle.listD)
def vx_at0 (own : String) (ic : Nat) (X : String) (names : List String) : List Cond := (Bundle.ownAtoms0 own ic X names).filter vx_no
def vx_atS (own : String) (ic : Nat) (X : String) (names : List String) : List Cond := (Bundle.ownAtoms own ic X names).filter vx_no
/-- a word that the tables alone decide, or a good one -/
def vx_ot (w : Cond) : Bool := w.onTables || goodWord w
theorem vx_ot_at {args a' : Array Value} {s U : State} {w : Cond} (hW : s.WarmedH U.vm) (hvm : s.vm = U.vm) (hg : vx_ot w = true) (h : w.before args s = true) : w.before a' U = true := by
  simp only [vx_ot, Bool.or_eq_true] at hg
  rcases hg with hg | hg
  · exact va_tabs hg hvm h
  · exact word_at hW (good_of_word hg) h
/-- a list's words: the good ones out of the method's own list, the others by premises of their own -/
theorem vx_hat {args : Array Value} {s : State} {L B : List Cond} (h1 : ∀ w ∈ L.filter goodWord, w.before args s = true) (h2 : ∀ w ∈ L.filter (fun w => !goodWord w), w ∈ B) (h3 : ∀ w ∈ B, w.before args s = true) : ∀ w ∈ L, w.before args s = true := by
  intro w hw
  by_cases g : goodWord w = true
  · exact h1 w (List.mem_filter.mpr ⟨hw, g⟩)
  · refine h3 w (h2 w (List.mem_filter.mpr ⟨hw, ?_⟩))
    show (!goodWord w) = true
    cases hgw : goodWord w
    · rfl
    · exact absurd hgw g
theorem vx_c {args : Array Value} {s : State} {w : Cond} {B : List Cond} (h : w.before args s = true) (t : ∀ w ∈ B, w.before args s = true) : ∀ w' ∈ w :: B, w'.before args s = true := fun w' h' => (List.mem_cons.mp h').elim (fun e => by rw [e]; exact h) (t w')
theorem vx_n {args : Array Value} {s : State} : ∀ w ∈ ([] : List Cond), w.before args s = true := fun _ h => nomatch h
theorem vx_own {args : Array Value} {s : State} {L : List Cond} (h1 : ∀ w ∈ L.filter vx_no, w.before args s = true)
    (hU : (Cond.isRef (.static Bundle.tN "UNASSIGNED_STACK" Bundle.steD)).before args s = true) (hN : (Cond.isRef (.static Bundle.tN "SUPPRESSED_SENTINEL" Bundle.listD)).before args s = true)
    (lU : (Cond.laysStatic Bundle.tN "UNASSIGNED_STACK" Bundle.steD).before args s = true) (lN : (Cond.laysStatic Bundle.tN "SUPPRESSED_SENTINEL" Bundle.listD).before args s = true) : ∀ w ∈ L, w.before args s = true := by
  intro w hw
  by_cases e1 : w = .isRef (.static Bundle.tN "UNASSIGNED_STACK" Bundle.steD)
  · rw [e1]; exact hU
  · by_cases e2 : w = .isRef (.static Bundle.tN "SUPPRESSED_SENTINEL" Bundle.listD)
    · rw [e2]; exact hN
    · by_cases e3 : w = .laysStatic Bundle.tN "UNASSIGNED_STACK" Bundle.steD
      · rw [e3]; exact lU
      · by_cases e4 : w = .laysStatic Bundle.tN "SUPPRESSED_SENTINEL" Bundle.listD
        · rw [e4]; exact lN
        · exact h1 w (List.mem_filter.mpr ⟨hw, by unfold vx_no; rw [decide_eq_true e1, decide_eq_true e2, decide_eq_true e3, decide_eq_true e4]; rfl⟩)
/-- where a static field lies, its class's statics cell in H -/
def vx_L (C n d : String) (A : Nat → Prop) (U : State) (H : Heap) : Prop := ∃ (c : ClassId) (k : Class) (i : Nat) (f : Field) (a : Nat) (cell : Cell), U.vm.findClass C = some c ∧ U.fieldFound? C n d = some (c, k, i, f) ∧ f.isStatic = true ∧ k.statics = some a ∧ H[a]? = some cell ∧ cell.vm.isStatics = true ∧ cell.cls = c ∧ f.slot < cell.slots.size ∧ k.staticTypes[f.slot]? = some f.type ∧ ¬ A a
theorem vx_L.moved {C n d : String} {A : Nat → Prop} {u U : State} {H : Heap} (hvm : u.vm.Alike U.vm) (h : vx_L C n d A u H) : vx_L C n d A U H := by
  obtain ⟨c, k, i, f, a, cell, h1, h2, h3, h4, h5, h6, h7, h8, h9, h10⟩ := h
  obtain ⟨k', hi', he⟩ := State.fieldFound?_setVm hvm h2
  exact ⟨c, k', i, f, a, cell, by rw [hvm.findClass]; exact h1, hi', h3, by rw [he]; exact h4, h5, h6, h7, h8, by rw [he]; exact h9, h10⟩
theorem vx_L.kept {C n d : String} {A : Nat → Prop} {U : State} {H H1 : Heap} (h : vx_L C n d A U H) (hq : ∀ a : Nat, a < H.size → ¬ A a → H1[a]? = H[a]?) : vx_L C n d A U H1 := by
  obtain ⟨c, k, i, f, a, cell, h1, h2, h3, h4, h5, h6, h7, h8, h9, h10⟩ := h
  exact ⟨c, k, i, f, a, cell, h1, h2, h3, h4, by rw [hq a (Array.getElem?_eq_some_iff.mp h5).1 h10]; exact h5, h6, h7, h8, h9, h10⟩
theorem vx_L.narrow {C n d : String} {A B : Nat → Prop} {U : State} {H : Heap} (h : vx_L C n d A U H) (hAB : ∀ q, B q → A q) : vx_L C n d B U H := by
  obtain ⟨c, k, i, f, a, cell, h1, h2, h3, h4, h5, h6, h7, h8, h9, h10⟩ := h
  exact ⟨c, k, i, f, a, cell, h1, h2, h3, h4, h5, h6, h7, h8, h9, fun z => h10 (hAB _ z)⟩
theorem vx_L.word {C n d : String} {A : Nat → Prop} {s : State} {args : Array Value} (h : vx_L C n d A s s.heap) : (Cond.laysStatic C n d).before args s = true := by
  obtain ⟨c, k, i, f, a, cell, h1, h2, h3, h4, h5, h6, h7, h8, h9, -⟩ := h
  show (Cond.laysStatic C n d).holds args s none s [] = true
  exact Cond.laysStatic_of h1 h2 h3 h4 h5 h6 h7 h8 h9
/-- .. and what it holds: null or some reference -/
def vx_Zq (C n d : String) (A : Nat → Prop) (U : State) (H : Heap) : Prop := va_Zq C n d A U H ∧ vx_L C n d A U H
theorem vx_Zq.moved {C n d : String} {A : Nat → Prop} {u U : State} {H : Heap} (hvm : u.vm.Alike U.vm) (h : vx_Zq C n d A u H) : vx_Zq C n d A U H := ⟨va_Zq.moved hvm h.1, vx_L.moved hvm h.2⟩
theorem vx_Zq.kept {C n d : String} {A : Nat → Prop} {U : State} {H H1 : Heap} (h : vx_Zq C n d A U H) (hq : ∀ a : Nat, a < H.size → ¬ A a → H1[a]? = H[a]?) : vx_Zq C n d A U H1 := ⟨va_Zq.kept h.1 hq, vx_L.kept h.2 hq⟩
theorem vx_Zq.narrow {C n d : String} {A B : Nat → Prop} {U : State} {H : Heap} (h : vx_Zq C n d A U H) (hAB : ∀ q, B q → A q) : vx_Zq C n d B U H := ⟨va_Zq.narrow h.1 hAB, vx_L.narrow h.2 hAB⟩
theorem vx_Zqof {args : Array Value} {s : State} {C n d : String} {A : Nat → Prop} (hl : (Cond.laysStatic C n d).before args s = true) (hini : (Cond.initialized C).before args s = true) (h : (Cond.isRef (.static C n d)).before args s = true) (hA : ∀ a : Nat, a < s.heap.size → ¬ A a) : vx_Zq C n d A s s.heap := by
  refine ⟨va_Zqof hl hini h hA, ?_⟩
  obtain ⟨c, k, i, f, a, cell, h1, h2, h3, h4, h5, h6, h7, h8, h9⟩ := Cond.laysStatic_spec hl
  exact ⟨c, k, i, f, a, cell, h1, h2, h3, h4, h5, h6, h7, h8, h9, hA a (Array.getElem?_eq_some_iff.mp h5).1⟩
theorem vx_isRef {C n d : String} {v : Value} {A : Nat → Prop} {s : State} {args : Array Value} (h : va_Z C n d v A s s.heap) (hv : v.isRef = true) : (Cond.isRef (.static C n d)).before args s = true := by
  obtain ⟨cf, kf, fi, f, a, cell, h1, h2, h3, h4, h5, h6, h7, -⟩ := h
  have he : (Term.static C n d).eval args s none [] s = some v := by
    simp [Term.eval, State.fieldNamed?, h1, h2, h4, h5, h6, h7]
  simp only [Cond.before, Cond.holds, Cond.value, he]
  cases v <;> simp_all [Value.isRef]
theorem vx_isRefq {C n d : String} {A : Nat → Prop} {s : State} {args : Array Value} (h : va_Zq C n d A s s.heap) : (Cond.isRef (.static C n d)).before args s = true := by
  rcases h with h | ⟨t, h⟩
  · exact vx_isRef h rfl
  · exact vx_isRef h rfl
/-- the same frame, seen from here: as if the method were called anew in this heap -/
theorem vx_rebase {T : State} (X : Stand p l e R s m args below meth c T locs cells slots) {R' : Room} (hf : R'.frames ≤ R.frames) (hl : R'.locals ≤ R.locals) (hc : cells + R'.cells ≤ R.cells) (hs : slots + R'.slots ≤ R.slots) :
    Stand p l e R' ((T.setVm s.vm).setFrames (.invoking m args :: below)) m args below meth c T [] 0 0 := by
  have htop : (T.setVm s.vm).topJava?.isSome := X.here.top
  have hF : ((T.setVm s.vm).setFrames (.invoking m args :: below)).frames = .invoking m args :: below := State.frames_setFrames _ (State.cur_lt_of_top htop)
  obtain ⟨g₀, hg0⟩ := Option.isSome_iff_exists.mp htop
  obtain ⟨r, hr⟩ := State.topJava?_eq_some.mp hg0
  have hl9 : e.platform.stackLimits (T.setVm s.vm).me = e.platform.stackLimits s.me := X.limits
  have hb9 : (T.setVm s.vm).me.stackBytes = s.me.stackBytes := X.bytes
  refine ⟨X.admits, X.cas, X.clock, hF, ?_, X.hears, X.method, X.code, X.here, X.tail, X.warmed, ?_, ?_, ?_⟩
  · have h := X.room
    have hU : ((T.setVm s.vm).setFrames (.invoking m args :: below)).localsInUse = s.localsInUse := by
      rw [State.localsInUse_invoking hF (meth := meth) (c := c) X.method X.code, State.localsInUse_invoking X.frames X.method X.code]
    simp only [State.hasRoom, Bool.and_eq_true, decide_eq_true_eq] at h ⊢
    obtain ⟨⟨⟨⟨h1, h2, h3, h4, h5, h6⟩, h7⟩, h8⟩, h9⟩ := h
    rw [X.frames, List.length_cons] at h2 h3
    have q1 := X.heapSize
    have q2 := X.used
    simp only [hF, hU, List.length_cons, State.stackLimits_setFrames, State.stackBytes_setFrames, hl9, hb9]
    refine ⟨⟨⟨⟨by omega, by omega, by omega, by omega, by omega, h6⟩, ?_⟩, ?_⟩, X.book⟩
    · show T.heap.size + R'.cells ≤ e.platform.maxCells
      omega
    · show T.slotsUsed + R'.slots ≤ e.platform.maxSlots
      omega
  · rw [State.stackLimits_setFrames]; rfl
  · rw [State.stackBytes_setFrames]; rfl
  · refine ⟨?_, Nat.le_refl _, Nat.le_refl _, ?_, ?_, fun a c9 h9 => ⟨c9, h9, rfl, rfl, fun _ _ => rfl⟩⟩
    · obtain ⟨t, ht, -⟩ := State.frames_cons hr
      show T.setVm s.vm = { ((T.setVm s.vm).setFrames (.invoking m args :: below)).setFrames (T.setVm s.vm).frames with heap := T.heap, slotsUsed := T.slotsUsed }
      rw [State.setFrames_setFrames, State.setFrames_self ht]
      rfl
    · show T.slotsUsed = T.slotsUsed + ((T.heap.toList.drop T.heap.size).map (·.slots.size)).sum
      rw [List.drop_eq_nil_of_le (Nat.le_of_eq Array.length_toList)]
      rfl
    · show ((T.heap.toList.drop T.heap.size).map (·.slots.size)).sum ≤ 0
      rw [List.drop_eq_nil_of_le (Nat.le_of_eq Array.length_toList)]
      exact Nat.le_refl _
/-- 'throw new E()': new; dup; invokespecial; athrow -/
theorem vx_throw0 {cc : ByteArray} {pc : Nat} (hexec : p.tables.exec = Jvm.exec) (hb : c.code = cc) (hl : l.stackTraces = false) {own cls : String} {names : List String} {ik ic mc ms : Nat} {A : Nat → Prop}
    (hown : s.vm.findClass own = some m.cls) (hcls : Bundle.fit cls = true) (hnames : ∀ n ∈ names, Bundle.fit n = true)
    (hk : (Cond.classLink own ik cls).before args s = true) (hini : (Cond.initialized cls).before args s = true) (hat : ∀ w ∈ vx_at0 own ic cls names, w.before args s = true)
    (hgood : ∀ w ∈ Cond.classLink own ik cls :: Cond.initialized cls :: vx_at0 own ic cls names, vx_ot w = true)
    (hU : vx_Zq Bundle.tN "UNASSIGNED_STACK" Bundle.steD A s s.heap) (hN : vx_Zq Bundle.tN "SUPPRESSED_SENTINEL" Bundle.listD A s s.heap) (hS : va_S A s.heap H locs) (hsize : ls.size = c.maxLocals)
    (d0 : decode cc pc = .ok (.new ik, 3)) (d3 : decode cc (pc + 3) = .ok (.dup, 1)) (d4 : decode cc (pc + 4) = .ok (.invokespecial ic, 3)) (d7 : decode cc (pc + 7) = .ok (.athrow, 1))
    (hout : ∀ x ∈ c.exceptionTable.toList, covers x (pc + 7) = false)
    (hRframes : names.length + 3 < R.frames) (hRlocals : (rest.map fun v => v.category).sum + (13 * (names.length + 1) + 42) ≤ R.locals) (hRcells : cells + 1 ≤ R.cells) (hRslots : slots + 6 ≤ R.slots) (hlocks : meth.locks = false)
    (hx : ∀ t : State, s.vm.Alike t.vm → H.size ≤ t.heap.size → (∀ q : Nat, q < H.size → t.heap[q]? = H[q]?) → XC cls s t)
    (hf : ∀ z ∈ locs, free z.base) (hc : cells + 1 ≤ mc) (hs : slots + 6 ≤ ms) :
    W p l e R s m args below meth c H locs cells slots (vx_MQ below Qc XC args s mc ms free) (F0 m pc ls rest) := by
  intro T hT X
  have htr : e.platform.stackTraces = false := (show e.platform.stackTraces = l.stackTraces by rw [X.admits.platform]).trans hl
  have Y := vx_rebase X (R' := { frames := R.frames, locals := R.locals, cells := 1, slots := 6 }) (Nat.le_refl _) (Nat.le_refl _) hRcells hRslots
  obtain ⟨s', hA⟩ : ∃ z, z = (T.setVm s.vm).setFrames (.invoking m args :: below) := ⟨_, rfl⟩
  rw [← hA] at Y
  have hvm : s'.vm = s.vm := by rw [hA]; rfl
  have hhp : s'.heap = H := by rw [hA]; exact hT
  have hW0 : s.WarmedH s'.vm := by rw [hvm]; exact State.WarmedH.refl s
  have hat' : ∀ w ∈ vx_at0 own ic cls names, w.before args s' = true := fun w hw => vx_ot_at hW0 hvm.symm (hgood w (List.mem_cons_of_mem _ (List.mem_cons_of_mem _ hw))) (hat w hw)
  have hk' : (Cond.classLink own ik cls).before args s' = true := vx_ot_at hW0 hvm.symm (hgood _ List.mem_cons_self) hk
  have hini' : (Cond.initialized cls).before args s' = true := vx_ot_at hW0 hvm.symm (hgood _ (List.mem_cons_of_mem _ List.mem_cons_self)) hini
  have hU' : vx_Zq Bundle.tN "UNASSIGNED_STACK" Bundle.steD A s' s'.heap := by rw [hhp]; exact vx_Zq.moved hW0.alike (hU.kept hS.2.1)
  have hN' : vx_Zq Bundle.tN "SUPPRESSED_SENTINEL" Bundle.listD A s' s'.heap := by rw [hhp]; exact vx_Zq.moved hW0.alike (hN.kept hS.2.1)
  have h : ∀ w ∈ Bundle.ownAtoms0 own ic cls names, w.before args s' = true := vx_own hat' (vx_isRefq hU'.1) (vx_isRefq hN'.1) hU'.2.word hN'.2.word
  have hown' : s'.vm.findClass own = some m.cls := by rw [hvm]; exact hown
  have hins : (Cond.instantiable cls 6).before args s' = true := h _ (by simp [Bundle.ownAtoms0])
  obtain ⟨vm₁, cX, kX, hfX, hkX, -, -, X₁, st1⟩ := Y.newCold hexec (own := own) (C := cls) (index := ik) (n := 6) hown' hk' hins hini'
    (g := F0 m pc ls rest) rfl (by rw [hb]; exact d0) (Nat.le_refl _) (Nat.le_refl _)
  generalize hT1 : (T.setVm vm₁).pushCell { cls := cX, slots := kX.instanceTypes.map defaultValue, vm := .none } = T1 at X₁ st1
  have hcat : (Value.ref T.heap.size).category = 1 := rfl
  have hcellA : T1.heap[T.heap.size]? = some (freshCell cX kX) := by rw [← hT1]; exact State.heap_pushCell_size _ _
  have d3' : decode c.code (pc + 3) = .ok (.dup, 1) := by rw [hb]; exact d3
  obtain ⟨U, hsteps, hrun, hend, hW, hsame, ce, hce, hO⟩ := X₁.ctorThrow0 hexec htr (own := own) (cls := cls) (names := names) (ic := ic) hown' hcls hnames h (fun x hx => nomatch hx) hfX hkX hcellA (by rw [hhp, hT]; exact Nat.le_refl _)
    (g := { method := m, pc := pc + 4, locals := ls, stack := .ref T.heap.size :: .ref T.heap.size :: rest, locked := none }) rfl hsize rfl rfl (rest := rest) rfl
    (by rw [hb]; exact d4) (by rw [hb]; exact d7) hout hRframes (by simp only [List.map_cons, List.sum_cons, hcat]; omega) hlocks
  obtain ⟨f1, f2⟩ := vx_frame hsame
  rw [hhp] at f1 f2
  have hWs : s.WarmedH U.vm := State.WarmedH.trans hW0 hW
  have hcl : s.vm.findClass cls = some ce.cls := by
    have h9 := hO.cls
    rw [hvm] at h9
    exact h9
  have hall : s.sameButNew ({ U with vm := s.vm } : State) locs mc ms := by
    subst hA
    obtain ⟨e1, e2⟩ := hsame
    rw [State.setFrames_setFrames] at e1
    have h2 : (T.setVm s.vm).sameButNew ({ U with vm := s.vm } : State) [] (0 + 1) (0 + 6) := ⟨e1, e2⟩
    have h3 := X.same.trans h2
    rw [List.append_nil] at h3
    exact h3.mono hc hs
  refine ⟨U, ?_, .threw T.heap.size, hrun, hend, Or.inr ⟨T.heap.size, rfl, cls, ce, locs, hx U hWs.alike f1 (fun q hq => f2 q hq (fun z hz => nomatch hz)), hce, hO.vm, hcl, hWs, hall, hf⟩⟩
  refine st1 _ ?_
  show Steps p.tables e below (T1.setTop { method := m, pc := pc + 3, locals := ls, stack := .ref T.heap.size :: rest, locked := none }) _
  jvm_step X₁.here [X₁.here.top, hexec, d3', Value.category]
  exact hsteps
/-- 'throw new E("text")': new; dup; ldc; invokespecial; athrow -/
theorem vx_throwS {cc : ByteArray} {pc : Nat} (hexec : p.tables.exec = Jvm.exec) (hb : c.code = cc) (hl : l.stackTraces = false) {own cls text : String} {names : List String} {ik is ic mc ms sa : Nat} {A : Nat → Prop}
    (hown : s.vm.findClass own = some m.cls) (hcls : Bundle.fit cls = true) (hnames : ∀ n ∈ names, Bundle.fit n = true)
    (hk : (Cond.classLink own ik cls).before args s = true) (hini : (Cond.initialized cls).before args s = true) (hstr : vk_R own is text sa s) (hat : ∀ w ∈ vx_atS own ic cls names, w.before args s = true)
    (hgood : ∀ w ∈ Cond.classLink own ik cls :: Cond.initialized cls :: vx_atS own ic cls names, vx_ot w = true)
    (hU : vx_Zq Bundle.tN "UNASSIGNED_STACK" Bundle.steD A s s.heap) (hN : vx_Zq Bundle.tN "SUPPRESSED_SENTINEL" Bundle.listD A s s.heap) (hS : va_S A s.heap H locs) (hsize : ls.size = c.maxLocals)
    (d0 : decode cc pc = .ok (.new ik, 3)) (d3 : decode cc (pc + 3) = .ok (.dup, 1)) (d4 : decode cc (pc + 4) = .ok (.ldc is, 2)) (d6 : decode cc (pc + 6) = .ok (.invokespecial ic, 3)) (d9 : decode cc (pc + 9) = .ok (.athrow, 1))
    (hout : ∀ x ∈ c.exceptionTable.toList, covers x (pc + 9) = false)
    (hRframes : names.length + 3 < R.frames) (hRlocals : (rest.map fun v => v.category).sum + (13 * (names.length + 1) + 43) ≤ R.locals) (hRcells : cells + 1 ≤ R.cells) (hRslots : slots + 6 ≤ R.slots) (hlocks : meth.locks = false)
    (hx : ∀ t : State, s.vm.Alike t.vm → H.size ≤ t.heap.size → (∀ q : Nat, q < H.size → t.heap[q]? = H[q]?) → XC cls s t)
    (hf : ∀ z ∈ locs, free z.base) (hc : cells + 1 ≤ mc) (hs : slots + 6 ≤ ms) :
    W p l e R s m args below meth c H locs cells slots (vx_MQ below Qc XC args s mc ms free) (F0 m pc ls rest) := by
  intro T hT X
  have htr : e.platform.stackTraces = false := (show e.platform.stackTraces = l.stackTraces by rw [X.admits.platform]).trans hl
  have Y := vx_rebase X (R' := { frames := R.frames, locals := R.locals, cells := 1, slots := 6 }) (Nat.le_refl _) (Nat.le_refl _) hRcells hRslots
  obtain ⟨s', hA⟩ : ∃ z, z = (T.setVm s.vm).setFrames (.invoking m args :: below) := ⟨_, rfl⟩
  rw [← hA] at Y
  have hvm : s'.vm = s.vm := by rw [hA]; rfl
  have hhp : s'.heap = H := by rw [hA]; exact hT
  have hW0 : s.WarmedH s'.vm := by rw [hvm]; exact State.WarmedH.refl s
  have hat' : ∀ w ∈ vx_atS own ic cls names, w.before args s' = true := fun w hw => vx_ot_at hW0 hvm.symm (hgood w (List.mem_cons_of_mem _ (List.mem_cons_of_mem _ hw))) (hat w hw)
  have hk' : (Cond.classLink own ik cls).before args s' = true := vx_ot_at hW0 hvm.symm (hgood _ List.mem_cons_self) hk
  have hini' : (Cond.initialized cls).before args s' = true := vx_ot_at hW0 hvm.symm (hgood _ (List.mem_cons_of_mem _ List.mem_cons_self)) hini
  have hU' : vx_Zq Bundle.tN "UNASSIGNED_STACK" Bundle.steD A s' s'.heap := by rw [hhp]; exact vx_Zq.moved hW0.alike (hU.kept hS.2.1)
  have hN' : vx_Zq Bundle.tN "SUPPRESSED_SENTINEL" Bundle.listD A s' s'.heap := by rw [hhp]; exact vx_Zq.moved hW0.alike (hN.kept hS.2.1)
  have h : ∀ w ∈ Bundle.ownAtoms own ic cls names, w.before args s' = true := vx_own hat' (vx_isRefq hU'.1) (vx_isRefq hN'.1) hU'.2.word hN'.2.word
  have hown' : s'.vm.findClass own = some m.cls := by rw [hvm]; exact hown
  have hins : (Cond.instantiable cls 6).before args s' = true := h _ (by simp [Bundle.ownAtoms])
  obtain ⟨vm₁, cX, kX, hfX, hkX, -, -, X₁, st1⟩ := Y.newCold hexec (own := own) (C := cls) (index := ik) (n := 6) hown' hk' hins hini'
    (g := F0 m pc ls rest) rfl (by rw [hb]; exact d0) (Nat.le_refl _) (Nat.le_refl _)
  generalize hT1 : (T.setVm vm₁).pushCell { cls := cX, slots := kX.instanceTypes.map defaultValue, vm := .none } = T1 at X₁ st1
  have hcat : (Value.ref T.heap.size).category = 1 := rfl
  have hcellA : T1.heap[T.heap.size]? = some (freshCell cX kX) := by rw [← hT1]; exact State.heap_pushCell_size _ _
  have d3' : decode c.code (pc + 3) = .ok (.dup, 1) := by rw [hb]; exact d3
  have d4' : decode c.code (pc + 4) = .ok (.ldc is, 2) := by rw [hb]; exact d4
  have hstr' : vk_R own is text sa s' := vk_R.warm hW0 hstr
  obtain ⟨U, hsteps, hrun, hend, hW, hsame, ce, hce, hO⟩ := X₁.ctorThrowS hexec htr (own := own) (cls := cls) (names := names) (ic := ic) hown' hcls hnames h (fun x hx => nomatch hx) hfX hkX hcellA (by rw [hhp, hT]; exact Nat.le_refl _) (msg := .ref sa) rfl
    (g := { method := m, pc := pc + 6, locals := ls, stack := .ref sa :: .ref T.heap.size :: .ref T.heap.size :: rest, locked := none }) rfl hsize rfl rfl (rest := rest) rfl
    (by rw [hb]; exact d6) (by rw [hb]; exact d9) hout hRframes (by simp only [List.map_cons, List.sum_cons, hcat]; omega) hlocks
  obtain ⟨f1, f2⟩ := vx_frame hsame
  rw [hhp] at f1 f2
  have hWs : s.WarmedH U.vm := State.WarmedH.trans hW0 hW
  have hcl : s.vm.findClass cls = some ce.cls := by
    have h9 := hO.cls
    rw [hvm] at h9
    exact h9
  have hall : s.sameButNew ({ U with vm := s.vm } : State) locs mc ms := by
    subst hA
    obtain ⟨e1, e2⟩ := hsame
    rw [State.setFrames_setFrames] at e1
    have h2 : (T.setVm s.vm).sameButNew ({ U with vm := s.vm } : State) [] (0 + 1) (0 + 6) := ⟨e1, e2⟩
    have h3 := X.same.trans h2
    rw [List.append_nil] at h3
    exact h3.mono hc hs
  refine ⟨U, ?_, .threw T.heap.size, hrun, hend, Or.inr ⟨T.heap.size, rfl, cls, ce, locs, hx U hWs.alike f1 (fun q hq => f2 q hq (fun z hz => nomatch hz)), hce, hO.vm, hcl, hWs, hall, hf⟩⟩
  refine st1 _ ?_
  show Steps p.tables e below (T1.setTop { method := m, pc := pc + 3, locals := ls, stack := .ref T.heap.size :: rest, locked := none }) _
  jvm_step X₁.here [X₁.here.top, hexec, d3', Value.category]
  exact X₁.ldcString hexec (own := own) (text := text) (index := is) (a := sa) hown' hstr'.1 hstr'.2
    (g := { method := m, pc := pc + 4, locals := ls, stack := .ref T.heap.size :: .ref T.heap.size :: rest, locked := none }) rfl d4' _ hsteps
/-- 'throw new E("text")', the text by a wide index -/
theorem vx_throwSW {cc : ByteArray} {pc : Nat} (hexec : p.tables.exec = Jvm.exec) (hb : c.code = cc) (hl : l.stackTraces = false) {own cls text : String} {names : List String} {ik is ic mc ms sa : Nat} {A : Nat → Prop}
    (hown : s.vm.findClass own = some m.cls) (hcls : Bundle.fit cls = true) (hnames : ∀ n ∈ names, Bundle.fit n = true)
    (hk : (Cond.classLink own ik cls).before args s = true) (hini : (Cond.initialized cls).before args s = true) (hstr : vk_R own is text sa s) (hat : ∀ w ∈ vx_atS own ic cls names, w.before args s = true)
    (hgood : ∀ w ∈ Cond.classLink own ik cls :: Cond.initialized cls :: vx_atS own ic cls names, vx_ot w = true)
    (hU : vx_Zq Bundle.tN "UNASSIGNED_STACK" Bundle.steD A s s.heap) (hN : vx_Zq Bundle.tN "SUPPRESSED_SENTINEL" Bundle.listD A s s.heap) (hS : va_S A s.heap H locs) (hsize : ls.size = c.maxLocals)
    (d0 : decode cc pc = .ok (.new ik, 3)) (d3 : decode cc (pc + 3) = .ok (.dup, 1)) (d4 : decode cc (pc + 4) = .ok (.ldc_w is, 3)) (d7 : decode cc (pc + 7) = .ok (.invokespecial ic, 3)) (d10 : decode cc (pc + 10) = .ok (.athrow, 1))
    (hout : ∀ x ∈ c.exceptionTable.toList, covers x (pc + 10) = false)
    (hRframes : names.length + 3 < R.frames) (hRlocals : (rest.map fun v => v.category).sum + (13 * (names.length + 1) + 43) ≤ R.locals) (hRcells : cells + 1 ≤ R.cells) (hRslots : slots + 6 ≤ R.slots) (hlocks : meth.locks = false)
    (hx : ∀ t : State, s.vm.Alike t.vm → H.size ≤ t.heap.size → (∀ q : Nat, q < H.size → t.heap[q]? = H[q]?) → XC cls s t)
    (hf : ∀ z ∈ locs, free z.base) (hc : cells + 1 ≤ mc) (hs : slots + 6 ≤ ms) :
    W p l e R s m args below meth c H locs cells slots (vx_MQ below Qc XC args s mc ms free) (F0 m pc ls rest) := by
  intro T hT X
  have htr : e.platform.stackTraces = false := (show e.platform.stackTraces = l.stackTraces by rw [X.admits.platform]).trans hl
  have Y := vx_rebase X (R' := { frames := R.frames, locals := R.locals, cells := 1, slots := 6 }) (Nat.le_refl _) (Nat.le_refl _) hRcells hRslots
  obtain ⟨s', hA⟩ : ∃ z, z = (T.setVm s.vm).setFrames (.invoking m args :: below) := ⟨_, rfl⟩
  rw [← hA] at Y
  have hvm : s'.vm = s.vm := by rw [hA]; rfl
  have hhp : s'.heap = H := by rw [hA]; exact hT
  have hW0 : s.WarmedH s'.vm := by rw [hvm]; exact State.WarmedH.refl s
  have hat' : ∀ w ∈ vx_atS own ic cls names, w.before args s' = true := fun w hw => vx_ot_at hW0 hvm.symm (hgood w (List.mem_cons_of_mem _ (List.mem_cons_of_mem _ hw))) (hat w hw)
  have hk' : (Cond.classLink own ik cls).before args s' = true := vx_ot_at hW0 hvm.symm (hgood _ List.mem_cons_self) hk
  have hini' : (Cond.initialized cls).before args s' = true := vx_ot_at hW0 hvm.symm (hgood _ (List.mem_cons_of_mem _ List.mem_cons_self)) hini
  have hU' : vx_Zq Bundle.tN "UNASSIGNED_STACK" Bundle.steD A s' s'.heap := by rw [hhp]; exact vx_Zq.moved hW0.alike (hU.kept hS.2.1)
  have hN' : vx_Zq Bundle.tN "SUPPRESSED_SENTINEL" Bundle.listD A s' s'.heap := by rw [hhp]; exact vx_Zq.moved hW0.alike (hN.kept hS.2.1)
  have h : ∀ w ∈ Bundle.ownAtoms own ic cls names, w.before args s' = true := vx_own hat' (vx_isRefq hU'.1) (vx_isRefq hN'.1) hU'.2.word hN'.2.word
  have hown' : s'.vm.findClass own = some m.cls := by rw [hvm]; exact hown
  have hins : (Cond.instantiable cls 6).before args s' = true := h _ (by simp [Bundle.ownAtoms])
  obtain ⟨vm₁, cX, kX, hfX, hkX, -, -, X₁, st1⟩ := Y.newCold hexec (own := own) (C := cls) (index := ik) (n := 6) hown' hk' hins hini'
    (g := F0 m pc ls rest) rfl (by rw [hb]; exact d0) (Nat.le_refl _) (Nat.le_refl _)
  generalize hT1 : (T.setVm vm₁).pushCell { cls := cX, slots := kX.instanceTypes.map defaultValue, vm := .none } = T1 at X₁ st1
  have hcat : (Value.ref T.heap.size).category = 1 := rfl
  have hcellA : T1.heap[T.heap.size]? = some (freshCell cX kX) := by rw [← hT1]; exact State.heap_pushCell_size _ _
  have d3' : decode c.code (pc + 3) = .ok (.dup, 1) := by rw [hb]; exact d3
  have d4' : decode c.code (pc + 4) = .ok (.ldc_w is, 3) := by rw [hb]; exact d4
  have hstr' : vk_R own is text sa s' := vk_R.warm hW0 hstr
  obtain ⟨U, hsteps, hrun, hend, hW, hsame, ce, hce, hO⟩ := X₁.ctorThrowS hexec htr (own := own) (cls := cls) (names := names) (ic := ic) hown' hcls hnames h (fun x hx => nomatch hx) hfX hkX hcellA (by rw [hhp, hT]; exact Nat.le_refl _) (msg := .ref sa) rfl
    (g := { method := m, pc := pc + 7, locals := ls, stack := .ref sa :: .ref T.heap.size :: .ref T.heap.size :: rest, locked := none }) rfl hsize rfl rfl (rest := rest) rfl
    (by rw [hb]; exact d7) (by rw [hb]; exact d10) hout hRframes (by simp only [List.map_cons, List.sum_cons, hcat]; omega) hlocks
  obtain ⟨f1, f2⟩ := vx_frame hsame
  rw [hhp] at f1 f2
  have hWs : s.WarmedH U.vm := State.WarmedH.trans hW0 hW
  have hcl : s.vm.findClass cls = some ce.cls := by
    have h9 := hO.cls
    rw [hvm] at h9
    exact h9
  have hall : s.sameButNew ({ U with vm := s.vm } : State) locs mc ms := by
    subst hA
    obtain ⟨e1, e2⟩ := hsame
    rw [State.setFrames_setFrames] at e1
    have h2 : (T.setVm s.vm).sameButNew ({ U with vm := s.vm } : State) [] (0 + 1) (0 + 6) := ⟨e1, e2⟩
    have h3 := X.same.trans h2
    rw [List.append_nil] at h3
    exact h3.mono hc hs
  refine ⟨U, ?_, .threw T.heap.size, hrun, hend, Or.inr ⟨T.heap.size, rfl, cls, ce, locs, hx U hWs.alike f1 (fun q hq => f2 q hq (fun z hz => nomatch hz)), hce, hO.vm, hcl, hWs, hall, hf⟩⟩
  refine st1 _ ?_
  show Steps p.tables e below (T1.setTop { method := m, pc := pc + 3, locals := ls, stack := .ref T.heap.size :: rest, locked := none }) _
  jvm_step X₁.here [X₁.here.top, hexec, d3', Value.category]
  exact X₁.ldcStringW hexec (own := own) (text := text) (index := is) (a := sa) hown' hstr'.1 hstr'.2
    (g := { method := m, pc := pc + 4, locals := ls, stack := .ref T.heap.size :: .ref T.heap.size :: rest, locked := none }) rfl d4' _ hsteps
end Ends
section Bodies
variable {l : Launch}
theorem vx_ofW {y : MethodName} {ws ws' : List Cond} {rm : Room} {Pc : Array Value → State → Prop} {Qc : Array Value → State → Outcome → State → Prop} {XC : String → State → State → Prop} {mc ms : Nat} {free : Addr → Prop} {cc : ByteArray} {maxL : Nat} {ret : Option FieldType}
    (hy : plainName y.cls = true) (hw : ws = Cond.code y cc maxL ret :: ws')
    (body : ∀ p e s m args below meth c s₁, BodyLoose p l y (headSpec ws rm) cc maxL ret e s m args below meth c s₁ → c.maxLocals = maxL → (∀ x ∈ c.exceptionTable.toList, False) → Pc args s →
      W p l e (headSpec ws rm).room s m args below meth c s.heap [] 0 0 (vx_MQ below Qc XC args s mc ms free) (entryFrame m args maxL)) : vx_Met l y ws rm Pc Qc XC mc ms free := by
  refine MetFree.of_bodyS (code := cc) (maxLocals := maxL) (ret := ret) hy ?_ ?_
  · intro args s m h hn
    obtain ⟨meth, c, h1, h2, h3, h4, h5, h6, -, -⟩ := Cond.code_spec hn (atoms_spec (ws := ws) h _ (by rw [hw]; exact List.mem_cons_self))
    exact ⟨meth, c, h1, h2, h3, h4, h5, h6⟩
  · intro p e s m args below meth c s₁ B hml hP _
    have hh0 : s₁.heap = s.heap := by rw [B.state]; rfl
    have ht : ∀ x ∈ c.exceptionTable.toList, False := by
      obtain ⟨meth9, c9, h1, h2, -, -, -, -, h7, -⟩ := Cond.code_spec B.named (atoms_spec (ws := ws) B.pre _ (by rw [hw]; exact List.mem_cons_self))
      cases Option.some.inj (h1.symm.trans B.method)
      cases Option.some.inj (h2.symm.trans (Stand.of_body B).code)
      intro x hx
      rw [Array.isEmpty_iff.mp h7] at hx
      cases hx
    obtain ⟨t, a1, o, b1, b2, b3⟩ := body p e s m args below meth c s₁ B hml ht hP s₁ hh0 (Stand.of_body B)
    exact ⟨t, o, a1, b1, b2, b3⟩
/-- the table of a body with handlers -/
theorem vx_table {p : Program} {x y : MethodName} {S : Spec} {cc bytes : ByteArray} {maxL maxL' : Nat} {ret ret' : Option FieldType} {e : Env} {s s₁ : State} {m : MethodId} {args : Array Value} {below : List Frame} {meth : Method} {c : Code} {hh : List (Nat × Nat × Nat × Nat)}
    (B : BodyLoose p l y S cc maxL ret e s m args below meth c s₁) (h : (Cond.codeWith y bytes maxL' ret' hh).before args s = true) : c.exceptionTable.toList = tableOf hh := by
  obtain ⟨m9, meth9, c9, hn9, h1, h2, -, -, h6, -⟩ := Cond.codeWith_spec h
  cases Option.some.inj (hn9.symm.trans B.named)
  cases Option.some.inj (h1.symm.trans B.method)
  cases Option.some.inj (h2.symm.trans (Stand.of_body B).code)
  rw [← h6, table_eq]
end Bodies
end VXA
/-! ===== END ===== -/
/-! ===== BEGIN a static call of a method with an exception table ===== -/
section VXS
variable {p : Program} {l : Launch} {e : Env} {R : Room} {s : State} {m : MethodId} {args : Array Value} {below : List Frame} {meth : Method} {c : Code} {T : State} {H : Heap} {locs : List Loc} {cells slots : Nat}
abbrev vx_CSW (R : Room) (s : State) (args : Array Value) (own : String) (index : Nat) (y : MethodName) (bytes : ByteArray) (maxL : Nat) (ret : Option FieldType) (hh : List (Nat × Nat × Nat × Nat)) (ws : List Cond) (rm : Room) (mc ms n : Nat) : Prop :=
  (rm.cells = mc ∧ rm.slots = ms ∧ rm.frames + 1 ≤ R.frames ∧ 8 + (maxL + 11) + rm.locals ≤ R.locals ∧ (∀ w ∈ ws, ∀ (a' : Array Value) (U : State), s.WarmedH U.vm → w.before a' U = true) ∧ Cond.codeWith y bytes maxL ret hh ∈ ws) ∧
  (Cond.codeWith y bytes maxL ret hh).before args s = true ∧ (Cond.initialized y.cls).before args s = true ∧ (y.cls ≠ "java/lang/invoke/MethodHandle" ∧ y.cls ≠ "java/lang/invoke/VarHandle") ∧
  (∀ sig, parseMethodDescriptor y.desc = some sig → n = sig.parameters.length) ∧ (Cond.methodLink own index y).before args s = true ∧ (Cond.static y).before args s = true
theorem vx_cwSW {own : String} {index maxL mc ms : Nat} {y : MethodName} {bytes : ByteArray} {ret : Option FieldType} {hh : List (Nat × Nat × Nat × Nat)} {Ts ws ws' : List Cond} {rm : Room} (n : Nat) (ht : ∀ w ∈ Ts, w.before args s = true) (hT : GoodIn Ts (va_wsS own index y ws)) (hw : ws = Cond.codeWith y bytes maxL ret hh :: ws') (hrc : rm.cells = mc) (hrs : rm.slots = ms)
    (hd : y.cls ≠ "java/lang/invoke/MethodHandle" ∧ y.cls ≠ "java/lang/invoke/VarHandle" ∧ (parseMethodDescriptor y.desc).map (fun d => d.parameters.length) = some n) (hR : rm.frames + 1 ≤ R.frames ∧ 8 + (maxL + 11) + rm.locals ≤ R.locals) :
    vx_CSW R s args own index y bytes maxL ret hh ws rm mc ms n := by
  have ok : ∀ w ∈ va_wsS own index y ws, w.before args s = true := fun w h => ht w (hT w h).1
  have hG : GoodIn Ts ws := fun w h => hT w (by unfold va_wsS; exact List.mem_append_right _ h)
  have hc : Cond.codeWith y bytes maxL ret hh ∈ ws := by rw [hw]; exact List.mem_cons_self
  refine ⟨⟨hrc, hrs, hR.1, hR.2, pay_in ht hG, hc⟩, ht _ (hG _ hc).1, ok _ (by simp [va_wsS]), ⟨hd.1, hd.2.1⟩, fun sig h => ?_, ok _ (by simp [va_wsS]), ok _ (by simp [va_wsS])⟩
  have h2 := hd.2.2
  rw [h] at h2
  exact (Option.some.inj h2).symm
theorem vx_callSW (X : Stand p l e R s m args below meth c T locs cells slots) (hexec : p.tables.exec = Jvm.exec) {own : String} {index : Nat} {y : MethodName} {bytes : ByteArray} {maxL : Nat} {ret : Option FieldType} {hh : List (Nat × Nat × Nat × Nat)}
    (hown : s.vm.findClass own = some m.cls) (hlink : (Cond.methodLink own index y).before args s = true) (hstat : (Cond.static y).before args s = true) (hinit : (Cond.initialized y.cls).before args s = true)
    (hcode : (Cond.codeWith y bytes maxL ret hh).before args s = true) (hy : y.cls ≠ "java/lang/invoke/MethodHandle" ∧ y.cls ≠ "java/lang/invoke/VarHandle")
    {W9 : Nat} {Pre : Pt → Array Value → Prop} {Post : Pt → Array Value → Option Value → Pt → Prop} (hK : Back l R p e below s args y 3 W9 Pre Post)
    {g : JFrame} (hg : g.method = m) (hsize : g.locals.size = c.maxLocals) {argsL rest : List Value} (hlen : ∀ sig, parseMethodDescriptor y.desc = some sig → argsL.length = sig.parameters.length)
    (hstack : g.stack = argsL.reverse ++ rest) (hW : 2 * g.monitorRoom + (rest.map fun v => v.category).sum ≤ W9) (hdg : decode c.code g.pc = .ok (.invokestatic index, 3))
    (hpre : ∀ vm₁, s.WarmedH vm₁ → Pre ⟨T.setVm vm₁, locs, cells, slots⟩ argsL.toArray) :
    ∃ (v : Option Value) (vm₁ : Vm) (B : Pt), s.WarmedH vm₁ ∧ Stand p l e R s m args below meth c B.U B.locs B.cells B.slots ∧ Post ⟨T.setVm vm₁, locs, cells, slots⟩ argsL.toArray v B ∧
      ∀ target, Steps p.tables e below (B.U.setTop { g with pc := g.pc + 3, stack := v.toList ++ rest }) target → Steps p.tables e below (T.setTop g) target := by
  obtain ⟨mk, methM, cM, hnamed, hmethM, -, -, -, -, -, -, hsigM⟩ := Cond.codeWith_spec hcode
  have hstatic : methM.isStatic = true := Cond.static_spec hnamed hmethM hstat
  obtain ⟨kP, hkP, -⟩ := className_of_methodNamed hnamed
  have hinitP : kP.init = .initialized := Cond.initialized_spec (findClass_of_methodNamed hnamed) hkP hinit
  obtain ⟨vm₁, X₁, hstep₁⟩ := X.invokestatic hexec hown hlink hnamed hmethM hstatic hkP hinitP hy (g := g) hg (argsL := argsL) (rest := rest) (hlen _ hsigM) hstack hdg
  obtain ⟨v, B, X', hpost, hsteps⟩ := hK m meth c ⟨T.setVm vm₁, locs, cells, slots⟩ { g with stack := rest } (.invokestatic index) mk argsL.toArray X₁ hg hsize hdg hW (X₁.named hnamed) (hpre vm₁ X₁.warmed)
  exact ⟨v, vm₁, B, X₁.warmed, X', hpost, fun target h => hstep₁ _ fun acts => by rw [doInvoke_state]; exact hsteps.trans h⟩
theorem vx_runSW {y : MethodName} {bytes cc : ByteArray} {maxL nL mc ms n index : Nat} {ret : Option FieldType} {hh : List (Nat × Nat × Nat × Nat)} {ws : List Cond} {rm : Room} {Pc : Array Value → State → Prop} {Qc : Array Value → State → Outcome → State → Prop} {free : Addr → Prop} {Ts : List Cond} {own : String} {As rest : List Value} {g : JFrame}
    (S : CallFix p m c cc nL s args Ts own) (hM : Met l y ws rm Pc Qc mc ms free) (cw : vx_CSW R s args own index y bytes maxL ret hh ws rm mc ms n) (hp : PreS s H Pc As)
    (hg : g.method = m) (hn : As.length = n) (hsize : g.locals.size = nL) (hstack : g.stack = As.reverse ++ rest) (hW : 2 * g.monitorRoom + (rest.map fun v => v.category).sum ≤ 8) (hdg : decode cc g.pc = .ok (.invokestatic index, 3)) (hf : cells + mc ≤ R.cells ∧ slots + ms ≤ R.slots) :
    va_Run p l e R s m args below meth c H locs cells slots mc ms g rest (Qc As.toArray) (free) := by
  obtain ⟨⟨hrc, hrs, hfr, hlo, hws, hcw⟩, hcode, hini, hy, hlen, hl, hstt⟩ := cw
  have hK : Back l R p e below s args y 3 8 (PreOf R mc ms Pc) (PostOf Qc mc ms free) := va_backW (hh := hh) (bytes := bytes) (maxL := maxL) (ret := ret) hM hp.1 hrc hrs hfr hlo hws hcw (fun a' U hW => word_at hW (Or.inl (by first | rfl | simp [Cond.onTables, Cond.keeps, Cond.steady])) hini)
  obtain ⟨hx, hb, hml, ho, -⟩ := S
  intro T hT X
  obtain ⟨v, vm₁, ⟨U', l2, c2, s2⟩, hW₁, X', ⟨g', mk, t, L, e1, e2, hq, h1, hL, h2, h3⟩, st⟩ := vx_callSW X hx (hh := hh) (bytes := bytes) (maxL := maxL) (ret := ret) ho hl hstt hini hcode hy hK hg (hsize.trans hml.symm) (argsL := As) (rest := rest) (fun sig h => hn.trans (hlen sig h)) hstack hW (by rw [hb]; exact hdg)
    (fun vm₁ hW₁ => ⟨hf.1, hf.2, hp.2 (T.setVm vm₁) hT hW₁⟩)
  dsimp only [Pt.U, Pt.locs, Pt.cells, Pt.slots] at X' e1 e2 h1 h2 h3 st
  subst h1; subst h2; subst h3
  exact ⟨v, (T.setVm vm₁).calling g' mk As.toArray, t, U', L, hT, X', hL, e1, e2, hq, st⟩
/-- not caught here, past rows that name other classes: it goes on to the caller -/
theorem vx_outP {p : Program} {l : Launch} {e : Env} {R : Room} {s : State} {m : MethodId} {args : Array Value} {below : List Frame} {meth : Method} {c : Code} {H : Heap} {locs : List Loc} {cells slots : Nat} {free : Addr → Prop} {ls : Array Slot} {rest : List Value} {Qc : Array Value → State → Outcome → State → Prop} {XC : String → State → State → Prop}
    {pc : Nat} {own E : String} {ce : Cell} {q : Addr} {mc ms : Nat} (hown : s.vm.findClass own = some m.cls) (hlocks : meth.locks = false)
    (hpass : ∀ z ∈ c.exceptionTable.toList, covers z pc = false ∨ (z.catchType ≠ 0 ∧ ∃ nm : String, (Cond.classLink own z.catchType nm).before args s = true ∧ va_Nc E nm s)) (hcell : H[q]? = some ce) (hv : ce.vm = .none) (hcl : s.vm.findClass E = some ce.cls)
    (hx : ∀ t : State, t.heap = H → s.vm.Alike t.vm → XC E s t) (hf : ∀ z ∈ locs, free z.base) (hc : cells ≤ mc) (hs : slots ≤ ms) :
    vx_W p l e R s m args below meth c H locs cells slots (vx_MQ below Qc XC args s mc ms free) (F0 m pc ls rest) q := by
  intro T hT X
  have hpl : e.platform.magicAccessors = ({} : Platform).magicAccessors := by rw [X.admits.platform]
  obtain ⟨vm', hW', X', st⟩ := X.outThrough hlocks q (g := F0 m pc ls rest) rfl rfl rfl (cell := ce) (by rw [hT]; exact hcell) (by rw [hv]; rfl)
    (by obtain ⟨k9, h9, -⟩ := Vm.findClass_spec hcl; exact ⟨k9, h9⟩) (fun z hz => by
      rcases hpass z hz with h | ⟨hz0, nm, hl1, hn1⟩
      · exact Or.inl h
      · obtain ⟨c6, hc6, hcl6⟩ := Cond.classLink_spec hown hl1 e.platform hpl
        obtain ⟨a8, b8, h1, h2, h3⟩ := hn1
        cases Option.some.inj (h1.symm.trans hcl)
        cases Option.some.inj (h2.symm.trans hc6)
        exact Or.inr ⟨hz0, _, hcl6, h3⟩)
  obtain ⟨g₀, hfr⟩ := X'.frames_eq
  have hcell9 : ((T.setVm vm').setFrames (.throwing q :: below)).heap[q]? = some ce := by
    show T.heap[q]? = some ce
    rw [hT]; exact hcell
  have hend : Ended ((T.setVm vm').setFrames (.throwing q :: below)) below (.threw q) := State.frames_setFrames _ (State.cur_lt_of_frames hfr)
  refine ⟨(T.setVm vm').setFrames (.throwing q :: below), ?_, .threw q, X'.here.running, hend, Or.inr ⟨q, rfl, E, ce, locs, hx _ hT (X'.ends _).1.alike, hcell9, hv, hcl, (X'.ends _).1, (X'.ends _).2.mono hc hs, hf⟩⟩
  rw [X.pushThrowing_eq]
  exact st
/-- a thing of a world lies in the heap -/
theorem vx_lt {D : va_G} {cl : List vw_C} {ws : va_W} {H1 : Heap} (h : va_P D cl ws H1) {k : Nat} {q : Nat × va_E} (hk : ws[k]? = some q) : q.1 < H1.size := (h k q hk).lt
end VXS
/-! ===== END ===== -/
/-! ===== BEGIN methods with a table of their own: called by a name, returning or throwing ===== -/
section VXH
/-! vx_backW, vx_callVX, vx_callSX, vx_callVW, vx_runVW, vx_runVX, vx_runSX, vx_ofWH follow the same proofs as their sisters above (Free/Laws.lean, Shelf42/LK1.lean); vx_outP calls Shelf42/NT130.lean (outThrough). -/
section
variable {l : Launch} {R : Room} {p : Program} {e : Env} {below : List Frame} {s : State} {sargs : Array Value} {y : MethodName} {len W9 : Nat}
theorem vx_backW {ws : List Cond} {rm : Room} {Pc : Array Value → State → Prop} {Qc : Array Value → State → Outcome → State → Prop} {XC : String → State → State → Prop} {mc ms : Nat} {free : Addr → Prop} {bytes : ByteArray} {maxL : Nat} {ret : Option FieldType} {hh : List (Nat × Nat × Nat × Nat)}
    (hM : vx_Met l y ws rm Pc Qc XC mc ms free) (hblind : FrameBlind Pc) (hrc : rm.cells = mc) (hrs : rm.slots = ms)
    (hframes : rm.frames + 1 ≤ R.frames) (hlocals : W9 + (maxL + 11) + rm.locals ≤ R.locals)
    (hws : ∀ w ∈ ws, ∀ a' U, s.WarmedH U.vm → w.before a' U = true) (hcode : Cond.codeWith y bytes maxL ret hh ∈ ws) (hinit : ∀ a' U, s.WarmedH U.vm → (Cond.initialized y.cls).before a' U = true) :
    vx_Back l R p e below s sargs y len W9 (PreOf R mc ms Pc) (PostOf Qc mc ms free) (vx_Post XC mc ms free) := by
  intro m meth c A g ig mk a X hg hsize hdg hW hn hp
  have h1 : (headSpec ws rm).pre.before a A.U = true := atoms_intro fun w hw => hws w hw _ _ X.warmed
  have h2 : (Cond.codeWith y bytes maxL ret hh).before a A.U = true := hws _ hcode _ _ X.warmed
  have h3 : (Cond.initialized y.cls).before a A.U = true := hinit _ _ X.warmed
  have h4 : A.cells + (headSpec ws rm).room.cells ≤ R.cells := by rw [show (headSpec ws rm).room.cells = mc from hrc]; exact hp.1
  have h5 : A.slots + (headSpec ws rm).room.slots ≤ R.slots := by rw [show (headSpec ws rm).room.slots = ms from hrs]; exact hp.2.1
  have hPc : Pc a (A.U.calling g mk a) := hblind _ _ _ _ hp.2.2
  obtain ⟨U, Ls, c0, s0⟩ := A
  dsimp only [Pt.U, Pt.locs, Pt.cells, Pt.slots] at h1 h2 h3 h4 h5 X hn hPc ⊢
  obtain ⟨m9, methY, cY, hn9, hmY, hcY, -, hlY, -⟩ := Cond.codeWith_spec h2
  cases Option.some.inj (hn9.symm.trans hn)
  obtain ⟨kY, hkY, -⟩ := className_of_methodNamed hn
  have hinitY : kY.init = .initialized := Cond.initialized_spec (findClass_of_methodNamed hn) hkY h3
  have h : At U g.method c below := by rw [hg]; exact X.here
  have hlocals9 : W9 + (maxL + 11) + (headSpec ws rm).room.locals ≤ R.locals := hlocals
  have happ : (headSpec ws rm).appliesLoose y e.platform (U.calling g mk a) = true :=
    Spec.appliesLoose_calling (g := g) h hdg hn hkY hinitY
      (X.room_calling (g := g) (R' := (headSpec ws rm).room) hsize hmY hcY hframes (by rw [hlY]; omega) h4 h5) h1
  obtain ⟨mid, hmid⟩ := h.above
  have hfr : (U.setTop g).frames = (.java g :: mid) ++ below := by rw [State.frames_setTop' g h.top, hmid]; rfl
  obtain ⟨o, s₂, hsteps, -, hend, hq⟩ := Steps.callFree hM p X.admits X.cas X.clock (acts := []) hfr happ hPc trivial
  have hq' : vx_Q Qc XC mc ms free a (U.calling g mk a) o s₂ := hq
  rw [State.frames_setTop' g h.top] at hend
  obtain ⟨g₀, hg0⟩ := Option.isSome_iff_exists.mp h.top
  obtain ⟨r, hr⟩ := State.topJava?_eq_some.mp hg0
  have hr' : (({ U with heap := s₂.heap, slotsUsed := s₂.slotsUsed } : State).setVm s₂.vm).frames = .java g₀ :: r := hr
  rcases hq' with ⟨hqc, L, hfe, hL⟩ | ⟨q, rfl, E, ce, L, hx, hce, hcv, hcl, hW₂, hsm, hL⟩
  · obtain ⟨⟨v, rfl⟩, hW₂, e2, q2, q3, q4, q5, q6⟩ := id hfe
    have e3 : s₂ = ({ (U.calling g mk a).setFrames s₂.frames with heap := s₂.heap, slotsUsed := s₂.slotsUsed } : State).setVm s₂.vm := by
      have : s₂ = ({ s₂ with vm := (U.calling g mk a).vm } : State).setVm s₂.vm := rfl
      rw [e2] at this
      exact this
    obtain ⟨c₂, i₂, len₂, hc₂, hd₂, hf₂⟩ := hend
    have hW' : U.WarmedH s₂.vm := hW₂
    have hcc : c₂ = c := by
      have h1 : s₂.code? g.method = U.code? g.method := by
        rw [State.code?_eq, State.code?_eq, hW'.alike.method?]
      exact Option.some.inj (hc₂.symm.trans (h1.trans h.code))
    subst hcc
    have hlen : len₂ = len := by rw [hdg] at hd₂; cases hd₂; rfl
    subst hlen
    have hs₂ : s₂ = (({ U with heap := s₂.heap, slotsUsed := s₂.slotsUsed } : State).setVm s₂.vm).setTop { g with pc := g.pc + len₂, stack := v.toList ++ g.stack } := by
      refine e3.trans ?_
      rw [hf₂, State.calling_eq h.top, State.setFrames_setFrames, State.setTop_of_frames _ hr', hr]
      rfl
    have hsame : U.sameButNew ({ U with heap := s₂.heap, slotsUsed := s₂.slotsUsed } : State) L mc ms := by
      refine ⟨?_, q2, q3, q4, q5, q6⟩
      obtain ⟨t, ht, -⟩ := State.frames_cons hr
      show ({ U with heap := s₂.heap, slotsUsed := s₂.slotsUsed } : State) = { U.setFrames U.frames with heap := s₂.heap, slotsUsed := s₂.slotsUsed }
      rw [State.setFrames_self ht]
    subst hg
    refine Or.inl ⟨v, ⟨(({ U with heap := s₂.heap, slotsUsed := s₂.slotsUsed } : State).setVm s₂.vm), Ls ++ L, c0 + mc, s0 + ms⟩,
      ⟨X.admits, X.cas, X.clock, X.frames, X.room, X.hears, X.method, X.code, (X.here.setHeapUsed s₂.heap s₂.slotsUsed).setVm hW'.alike, X.tail, State.WarmedH.trans X.warmed hW', X.limits, X.bytes, X.same.trans (hsame.setVm s.vm)⟩,
      ⟨g, mk, s₂, L, rfl, rfl, hqc, rfl, hL, rfl, rfl⟩, ?_⟩
    show Steps p.tables e below _ ((({ U with heap := s₂.heap, slotsUsed := s₂.slotsUsed } : State).setVm s₂.vm).setTop { g with pc := g.pc + len₂, stack := v.toList ++ g.stack })
    rw [← hs₂]
    exact hsteps
  · obtain ⟨e2, q2, q3, q4, q5, q6⟩ := id hsm
    have e3 : s₂ = ({ (U.calling g mk a).setFrames s₂.frames with heap := s₂.heap, slotsUsed := s₂.slotsUsed } : State).setVm s₂.vm := by
      have : s₂ = ({ s₂ with vm := (U.calling g mk a).vm } : State).setVm s₂.vm := rfl
      rw [e2] at this
      exact this
    have hf₂ : s₂.frames = .throwing q :: .java g :: U.frames.tail := hend
    have hW' : U.WarmedH s₂.vm := hW₂
    have hs₂ : s₂ = ((({ U with heap := s₂.heap, slotsUsed := s₂.slotsUsed } : State).setVm s₂.vm).setTop g).pushFrame (.throwing q) := by
      refine e3.trans ?_
      rw [hf₂, State.calling_eq h.top, State.setFrames_setFrames, State.pushFrame, State.frames_setTop _ hr', State.setTop_of_frames _ hr', State.setFrames_setFrames, hr]
      rfl
    have hsame : U.sameButNew ({ U with heap := s₂.heap, slotsUsed := s₂.slotsUsed } : State) L mc ms := by
      refine ⟨?_, q2, q3, q4, q5, q6⟩
      obtain ⟨t, ht, -⟩ := State.frames_cons hr
      show ({ U with heap := s₂.heap, slotsUsed := s₂.slotsUsed } : State) = { U.setFrames U.frames with heap := s₂.heap, slotsUsed := s₂.slotsUsed }
      rw [State.setFrames_self ht]
    subst hg
    refine Or.inr ⟨q, ⟨(({ U with heap := s₂.heap, slotsUsed := s₂.slotsUsed } : State).setVm s₂.vm), Ls ++ L, c0 + mc, s0 + ms⟩,
      ⟨X.admits, X.cas, X.clock, X.frames, X.room, X.hears, X.method, X.code, (X.here.setHeapUsed s₂.heap s₂.slotsUsed).setVm hW'.alike, X.tail, State.WarmedH.trans X.warmed hW', X.limits, X.bytes, X.same.trans (hsame.setVm s.vm)⟩,
      ⟨g, mk, s₂, L, E, ce, rfl, rfl, hx, hce, hcv, hcl, rfl, hL, rfl, rfl⟩, ?_⟩
    show Steps p.tables e below _ (((({ U with heap := s₂.heap, slotsUsed := s₂.slotsUsed } : State).setVm s₂.vm).setTop g).pushFrame (.throwing q))
    rw [← hs₂]
    exact hsteps
end
variable {p : Program} {l : Launch} {e : Env} {R : Room} {s : State} {m : MethodId} {args : Array Value} {below : List Frame} {meth : Method} {c : Code} {T : State} {H : Heap} {locs : List Loc} {cells slots : Nat}
theorem vx_callVX (X : Stand p l e R s m args below meth c T locs cells slots) (hexec : p.tables.exec = Jvm.exec) {own C : String} {index : Nat} {y : MethodName} {bytes : ByteArray} {maxL : Nat} {ret : Option FieldType} {hh : List (Nat × Nat × Nat × Nat)}
    (hown : s.vm.findClass own = some m.cls) (hlink : (Cond.methodLink own index y).before args s = true) (hinst : (Cond.instanceMethod y).before args s = true) (hsel : (Cond.selects C y y).before args s = true)
    (hcode : (Cond.codeWith y bytes maxL ret hh).before args s = true) (hy : y.cls ≠ "java/lang/invoke/MethodHandle" ∧ y.cls ≠ "java/lang/invoke/VarHandle")
    {W9 : Nat} {Pre : Pt → Array Value → Prop} {Post : Pt → Array Value → Option Value → Pt → Prop} {PostX : Pt → Array Value → Addr → Pt → Prop} (hK : vx_Back l R p e below s args y 3 W9 Pre Post PostX)
    {b : Addr} {cellB : Cell} (hcell : T.heap[b]? = some cellB) (hobj : cellB.vm.isStatics = false) (hcls : s.vm.findClass C = some cellB.cls)
    {g : JFrame} (hg : g.method = m) (hsize : g.locals.size = c.maxLocals) {argsL rest : List Value} (hlen : ∀ sig, parseMethodDescriptor y.desc = some sig → argsL.length = sig.parameters.length)
    (hstack : g.stack = argsL.reverse ++ .ref b :: rest) (hW : 2 * g.monitorRoom + (rest.map fun v => v.category).sum ≤ W9) (hdg : decode c.code g.pc = .ok (.invokevirtual index, 3))
    (hpre : ∀ vm₁, s.WarmedH vm₁ → Pre ⟨T.setVm vm₁, locs, cells, slots⟩ (Value.ref b :: argsL).toArray) :
    (∃ (v : Option Value) (vm₁ : Vm) (B : Pt), s.WarmedH vm₁ ∧ Stand p l e R s m args below meth c B.U B.locs B.cells B.slots ∧ Post ⟨T.setVm vm₁, locs, cells, slots⟩ (Value.ref b :: argsL).toArray v B ∧
      ∀ target, Steps p.tables e below (B.U.setTop { g with pc := g.pc + 3, stack := v.toList ++ rest }) target → Steps p.tables e below (T.setTop g) target) ∨
    (∃ (q : Addr) (vm₁ : Vm) (B : Pt), s.WarmedH vm₁ ∧ Stand p l e R s m args below meth c B.U B.locs B.cells B.slots ∧ PostX ⟨T.setVm vm₁, locs, cells, slots⟩ (Value.ref b :: argsL).toArray q B ∧
      Steps p.tables e below (T.setTop g) ((B.U.setTop { g with stack := rest }).pushFrame (.throwing q))) := by
  obtain ⟨mk, methM, hnamed, hmethM, hstM, habM⟩ := Cond.instanceMethod_spec hinst
  obtain ⟨m8, methM', cM, hn8, hmethM', -, -, -, -, -, -, hsigM⟩ := Cond.codeWith_spec hcode
  cases Option.some.inj (hn8.symm.trans hnamed)
  cases hmethM.symm.trans hmethM'
  obtain ⟨c2, r2, m2, q1, q2, q3, q4, kP, hkP, hkPi⟩ := Cond.selects_spec hsel
  cases hcls.symm.trans q1
  cases (State.methodFound?_of_named hnamed hy).symm.trans q2
  cases hnamed.symm.trans q3
  have hselP : selectMethod e.platform s.vm cellB.cls mk = .method mk := by rw [Launch.admits_selectMethod X.admits]; exact q4
  obtain ⟨vm₁, X₁, hstep₁⟩ := X.invokevirtual hexec hown hlink hnamed hmethM hstM hkP hkPi hy (a := b) (cell := cellB) hcell
    (fun z h => by rw [h] at hobj; cases hobj) hselP hmethM habM hkP hkPi (g := g) hg (argsL := argsL) (rest := rest) (hlen _ hsigM) hstack hdg
  rcases hK m meth c ⟨T.setVm vm₁, locs, cells, slots⟩ { g with stack := rest } (.invokevirtual index) mk (Value.ref b :: argsL).toArray X₁ hg hsize hdg hW (X₁.named hnamed) (hpre vm₁ X₁.warmed) with ⟨v, B, X', hpost, hsteps⟩ | ⟨q, B, X', hpost, hsteps⟩
  · exact Or.inl ⟨v, vm₁, B, X₁.warmed, X', hpost, fun target h => hstep₁ _ fun acts => by rw [doInvoke_state]; exact hsteps.trans h⟩
  · exact Or.inr ⟨q, vm₁, B, X₁.warmed, X', hpost, hstep₁ _ fun acts => by rw [doInvoke_state]; exact hsteps⟩
theorem vx_callSX (X : Stand p l e R s m args below meth c T locs cells slots) (hexec : p.tables.exec = Jvm.exec) {own : String} {index : Nat} {y : MethodName} {bytes : ByteArray} {maxL : Nat} {ret : Option FieldType} {hh : List (Nat × Nat × Nat × Nat)}
    (hown : s.vm.findClass own = some m.cls) (hlink : (Cond.methodLink own index y).before args s = true) (hstat : (Cond.static y).before args s = true) (hinit : (Cond.initialized y.cls).before args s = true)
    (hcode : (Cond.codeWith y bytes maxL ret hh).before args s = true) (hy : y.cls ≠ "java/lang/invoke/MethodHandle" ∧ y.cls ≠ "java/lang/invoke/VarHandle")
    {W9 : Nat} {Pre : Pt → Array Value → Prop} {Post : Pt → Array Value → Option Value → Pt → Prop} {PostX : Pt → Array Value → Addr → Pt → Prop} (hK : vx_Back l R p e below s args y 3 W9 Pre Post PostX)
    {g : JFrame} (hg : g.method = m) (hsize : g.locals.size = c.maxLocals) {argsL rest : List Value} (hlen : ∀ sig, parseMethodDescriptor y.desc = some sig → argsL.length = sig.parameters.length)
    (hstack : g.stack = argsL.reverse ++ rest) (hW : 2 * g.monitorRoom + (rest.map fun v => v.category).sum ≤ W9) (hdg : decode c.code g.pc = .ok (.invokestatic index, 3))
    (hpre : ∀ vm₁, s.WarmedH vm₁ → Pre ⟨T.setVm vm₁, locs, cells, slots⟩ argsL.toArray) :
    (∃ (v : Option Value) (vm₁ : Vm) (B : Pt), s.WarmedH vm₁ ∧ Stand p l e R s m args below meth c B.U B.locs B.cells B.slots ∧ Post ⟨T.setVm vm₁, locs, cells, slots⟩ argsL.toArray v B ∧
      ∀ target, Steps p.tables e below (B.U.setTop { g with pc := g.pc + 3, stack := v.toList ++ rest }) target → Steps p.tables e below (T.setTop g) target) ∨
    (∃ (q : Addr) (vm₁ : Vm) (B : Pt), s.WarmedH vm₁ ∧ Stand p l e R s m args below meth c B.U B.locs B.cells B.slots ∧ PostX ⟨T.setVm vm₁, locs, cells, slots⟩ argsL.toArray q B ∧
      Steps p.tables e below (T.setTop g) ((B.U.setTop { g with stack := rest }).pushFrame (.throwing q))) := by
  obtain ⟨mk, methM, cM, hnamed, hmethM, -, -, -, -, -, -, hsigM⟩ := Cond.codeWith_spec hcode
  have hstatic : methM.isStatic = true := Cond.static_spec hnamed hmethM hstat
  obtain ⟨kP, hkP, -⟩ := className_of_methodNamed hnamed
  have hinitP : kP.init = .initialized := Cond.initialized_spec (findClass_of_methodNamed hnamed) hkP hinit
  obtain ⟨vm₁, X₁, hstep₁⟩ := X.invokestatic hexec hown hlink hnamed hmethM hstatic hkP hinitP hy (g := g) hg (argsL := argsL) (rest := rest) (hlen _ hsigM) hstack hdg
  rcases hK m meth c ⟨T.setVm vm₁, locs, cells, slots⟩ { g with stack := rest } (.invokestatic index) mk argsL.toArray X₁ hg hsize hdg hW (X₁.named hnamed) (hpre vm₁ X₁.warmed) with ⟨v, B, X', hpost, hsteps⟩ | ⟨q, B, X', hpost, hsteps⟩
  · exact Or.inl ⟨v, vm₁, B, X₁.warmed, X', hpost, fun target h => hstep₁ _ fun acts => by rw [doInvoke_state]; exact hsteps.trans h⟩
  · exact Or.inr ⟨q, vm₁, B, X₁.warmed, X', hpost, hstep₁ _ fun acts => by rw [doInvoke_state]; exact hsteps⟩
theorem vx_callVW (X : Stand p l e R s m args below meth c T locs cells slots) (hexec : p.tables.exec = Jvm.exec) {own C : String} {index : Nat} {y : MethodName} {bytes : ByteArray} {maxL : Nat} {ret : Option FieldType} {hh : List (Nat × Nat × Nat × Nat)}
    (hown : s.vm.findClass own = some m.cls) (hlink : (Cond.methodLink own index y).before args s = true) (hinst : (Cond.instanceMethod y).before args s = true) (hsel : (Cond.selects C y y).before args s = true)
    (hcode : (Cond.codeWith y bytes maxL ret hh).before args s = true) (hy : y.cls ≠ "java/lang/invoke/MethodHandle" ∧ y.cls ≠ "java/lang/invoke/VarHandle")
    {W9 : Nat} {Pre : Pt → Array Value → Prop} {Post : Pt → Array Value → Option Value → Pt → Prop} (hK : Back l R p e below s args y 3 W9 Pre Post)
    {b : Addr} {cellB : Cell} (hcell : T.heap[b]? = some cellB) (hobj : cellB.vm.isStatics = false) (hcls : s.vm.findClass C = some cellB.cls)
    {g : JFrame} (hg : g.method = m) (hsize : g.locals.size = c.maxLocals) {argsL rest : List Value} (hlen : ∀ sig, parseMethodDescriptor y.desc = some sig → argsL.length = sig.parameters.length)
    (hstack : g.stack = argsL.reverse ++ .ref b :: rest) (hW : 2 * g.monitorRoom + (rest.map fun v => v.category).sum ≤ W9) (hdg : decode c.code g.pc = .ok (.invokevirtual index, 3))
    (hpre : ∀ vm₁, s.WarmedH vm₁ → Pre ⟨T.setVm vm₁, locs, cells, slots⟩ (Value.ref b :: argsL).toArray) :
    ∃ (v : Option Value) (vm₁ : Vm) (B : Pt), s.WarmedH vm₁ ∧ Stand p l e R s m args below meth c B.U B.locs B.cells B.slots ∧ Post ⟨T.setVm vm₁, locs, cells, slots⟩ (Value.ref b :: argsL).toArray v B ∧
      ∀ target, Steps p.tables e below (B.U.setTop { g with pc := g.pc + 3, stack := v.toList ++ rest }) target → Steps p.tables e below (T.setTop g) target := by
  obtain ⟨mk, methM, hnamed, hmethM, hstM, habM⟩ := Cond.instanceMethod_spec hinst
  obtain ⟨m8, methM', cM, hn8, hmethM', -, -, -, -, -, -, hsigM⟩ := Cond.codeWith_spec hcode
  cases Option.some.inj (hn8.symm.trans hnamed)
  cases hmethM.symm.trans hmethM'
  obtain ⟨c2, r2, m2, q1, q2, q3, q4, kP, hkP, hkPi⟩ := Cond.selects_spec hsel
  cases hcls.symm.trans q1
  cases (State.methodFound?_of_named hnamed hy).symm.trans q2
  cases hnamed.symm.trans q3
  have hselP : selectMethod e.platform s.vm cellB.cls mk = .method mk := by rw [Launch.admits_selectMethod X.admits]; exact q4
  obtain ⟨vm₁, X₁, hstep₁⟩ := X.invokevirtual hexec hown hlink hnamed hmethM hstM hkP hkPi hy (a := b) (cell := cellB) hcell
    (fun z h => by rw [h] at hobj; cases hobj) hselP hmethM habM hkP hkPi (g := g) hg (argsL := argsL) (rest := rest) (hlen _ hsigM) hstack hdg
  obtain ⟨v, B, X', hpost, hsteps⟩ := hK m meth c ⟨T.setVm vm₁, locs, cells, slots⟩ { g with stack := rest } (.invokevirtual index) mk (Value.ref b :: argsL).toArray X₁ hg hsize hdg hW (X₁.named hnamed) (hpre vm₁ X₁.warmed)
  exact ⟨v, vm₁, B, X₁.warmed, X', hpost, fun target h => hstep₁ _ fun acts => by rw [doInvoke_state]; exact hsteps.trans h⟩
abbrev vx_CVW (R : Room) (s : State) (args : Array Value) (own C : String) (index : Nat) (y : MethodName) (bytes : ByteArray) (maxL : Nat) (ret : Option FieldType) (hh : List (Nat × Nat × Nat × Nat)) (ws : List Cond) (rm : Room) (mc ms n : Nat) : Prop :=
  (rm.cells = mc ∧ rm.slots = ms ∧ rm.frames + 1 ≤ R.frames ∧ 8 + (maxL + 11) + rm.locals ≤ R.locals ∧ (∀ w ∈ ws, ∀ (a' : Array Value) (U : State), s.WarmedH U.vm → w.before a' U = true) ∧ Cond.codeWith y bytes maxL ret hh ∈ ws) ∧
  (Cond.codeWith y bytes maxL ret hh).before args s = true ∧ (Cond.initialized y.cls).before args s = true ∧ (y.cls ≠ "java/lang/invoke/MethodHandle" ∧ y.cls ≠ "java/lang/invoke/VarHandle") ∧
  (∀ sig, parseMethodDescriptor y.desc = some sig → n = sig.parameters.length) ∧ (Cond.methodLink own index y).before args s = true ∧ (Cond.instanceMethod y).before args s = true ∧ (Cond.selects C y y).before args s = true
theorem vx_cwVW {own C : String} {index maxL mc ms : Nat} {y : MethodName} {bytes : ByteArray} {ret : Option FieldType} {hh : List (Nat × Nat × Nat × Nat)} {Ts ws ws' : List Cond} {rm : Room} (n : Nat) (ht : ∀ w ∈ Ts, w.before args s = true) (hT : GoodIn Ts (wsV own index C y ws)) (hw : ws = Cond.codeWith y bytes maxL ret hh :: ws') (hrc : rm.cells = mc) (hrs : rm.slots = ms)
    (hd : y.cls = C ∧ y.cls ≠ "java/lang/invoke/MethodHandle" ∧ y.cls ≠ "java/lang/invoke/VarHandle" ∧ (parseMethodDescriptor y.desc).map (fun d => d.parameters.length) = some n) (hR : rm.frames + 1 ≤ R.frames ∧ 8 + (maxL + 11) + rm.locals ≤ R.locals) :
    vx_CVW R s args own C index y bytes maxL ret hh ws rm mc ms n := by
  obtain ⟨hC, hd⟩ := hd
  subst hC
  have ok : ∀ w ∈ wsV own index y.cls y ws, w.before args s = true := fun w h => ht w (hT w h).1
  have hG : GoodIn Ts ws := fun w h => hT w (by unfold wsV; exact List.mem_append_right _ h)
  have hc : Cond.codeWith y bytes maxL ret hh ∈ ws := by rw [hw]; exact List.mem_cons_self
  refine ⟨⟨hrc, hrs, hR.1, hR.2, pay_in ht hG, hc⟩, ht _ (hG _ hc).1, ok _ (by simp [wsV]), ⟨hd.1, hd.2.1⟩, fun sig h => ?_, ok _ (by simp [wsV]), ok _ (by simp [wsV]), ok _ (by simp [wsV])⟩
  have h2 := hd.2.2
  rw [h] at h2
  exact (Option.some.inj h2).symm
theorem vx_runVW {y : MethodName} {bytes cc : ByteArray} {maxL nL mc ms n index : Nat} {ret : Option FieldType} {hh : List (Nat × Nat × Nat × Nat)} {ws : List Cond} {rm : Room} {Pc : Array Value → State → Prop} {Qc : Array Value → State → Outcome → State → Prop} {free : Addr → Prop} {Ts : List Cond} {own C : String} {b : Addr} {As rest : List Value} {g : JFrame}
    (S : CallFix p m c cc nL s args Ts own) (hM : Met l y ws rm Pc Qc mc ms free) (cw : vx_CVW R s args own C index y bytes maxL ret hh ws rm mc ms n) (hp : PreV s H C b Pc As)
    (hg : g.method = m) (hn : As.length = n) (hsize : g.locals.size = nL) (hstack : g.stack = As.reverse ++ .ref b :: rest) (hW : 2 * g.monitorRoom + (rest.map fun v => v.category).sum ≤ 8) (hdg : decode cc g.pc = .ok (.invokevirtual index, 3)) (hf : cells + mc ≤ R.cells ∧ slots + ms ≤ R.slots) :
    va_Run p l e R s m args below meth c H locs cells slots mc ms g rest (Qc (Value.ref b :: As).toArray) free := by
  obtain ⟨⟨hrc, hrs, hfr, hlo, hws, hcw⟩, hcode, hini, hy, hlen, hl, hin, hse⟩ := cw
  have hK : Back l R p e below s args y 3 8 (PreOf R mc ms Pc) (PostOf Qc mc ms free) := va_backW (hh := hh) (bytes := bytes) (maxL := maxL) (ret := ret) hM hp.1 hrc hrs hfr hlo hws hcw (fun a' U hW => word_at hW (Or.inl (by first | rfl | simp [Cond.onTables, Cond.keeps, Cond.steady])) hini)
  obtain ⟨hx, hb, hml, ho, -⟩ := S
  obtain ⟨-, ⟨cellB, hcB, hoB, hclB⟩, hPc⟩ := hp
  intro T hT X
  obtain ⟨v, vm₁, ⟨U', l2, c2, s2⟩, hW₁, X', ⟨g', mk, t, L, e1, e2, hq, h1, hL, h2, h3⟩, st⟩ := vx_callVW X hx (C := C) (hh := hh) (bytes := bytes) (maxL := maxL) (ret := ret) ho hl hin hse hcode hy hK (by rw [hT]; exact hcB) hoB hclB hg (hsize.trans hml.symm) (argsL := As) (rest := rest) (fun sig h => hn.trans (hlen sig h)) hstack hW (by rw [hb]; exact hdg)
    (fun vm₁ hW₁ => ⟨hf.1, hf.2, hPc (T.setVm vm₁) hT hW₁⟩)
  dsimp only [Pt.U, Pt.locs, Pt.cells, Pt.slots] at X' e1 e2 h1 h2 h3 st
  subst h1; subst h2; subst h3
  exact ⟨v, (T.setVm vm₁).calling g' mk (Value.ref b :: As).toArray, t, U', L, hT, X', hL, e1, e2, hq, st⟩
section
variable {y : MethodName} {bytes cc : ByteArray} {maxL nL mc ms n index : Nat} {ret : Option FieldType} {ws : List Cond} {rm : Room} {Pc : Array Value → State → Prop} {Qc : Array Value → State → Outcome → State → Prop} {XC : String → State → State → Prop} {free : Addr → Prop} {Ts : List Cond} {own C : String} {b : Addr} {As rest : List Value} {g : JFrame}
theorem vx_runVX {hh : List (Nat × Nat × Nat × Nat)} (S : CallFix p m c cc nL s args Ts own) (hM : vx_Met l y ws rm Pc Qc XC mc ms free) (cw : vx_CVW R s args own C index y bytes maxL ret hh ws rm mc ms n) (hp : PreV s H C b Pc As)
    (hg : g.method = m) (hn : As.length = n) (hsize : g.locals.size = nL) (hstack : g.stack = As.reverse ++ .ref b :: rest) (hW : 2 * g.monitorRoom + (rest.map fun v => v.category).sum ≤ 8) (hdg : decode cc g.pc = .ok (.invokevirtual index, 3)) (hf : cells + mc ≤ R.cells ∧ slots + ms ≤ R.slots) :
    vx_Run p l e R s m args below meth c H locs cells slots mc ms g rest (Qc (Value.ref b :: As).toArray) XC free := by
  obtain ⟨⟨hrc, hrs, hfr, hlo, hws, hcw⟩, hcode, hini, hy, hlen, hl, hin, hse⟩ := cw
  have hK : vx_Back l R p e below s args y 3 8 (PreOf R mc ms Pc) (PostOf Qc mc ms free) (vx_Post XC mc ms free) := vx_backW (hh := hh) (bytes := bytes) (maxL := maxL) (ret := ret) hM hp.1 hrc hrs hfr hlo hws hcw (fun a' U hW => word_at hW (Or.inl (by first | rfl | simp [Cond.onTables, Cond.keeps, Cond.steady])) hini)
  obtain ⟨hx, hb, hml, ho, -⟩ := S
  obtain ⟨-, ⟨cellB, hcB, hoB, hclB⟩, hPc⟩ := hp
  intro T hT X
  rcases vx_callVX X hx (C := C) (hh := hh) (bytes := bytes) (maxL := maxL) (ret := ret) ho hl hin hse hcode hy hK (by rw [hT]; exact hcB) hoB hclB hg (hsize.trans hml.symm) (argsL := As) (rest := rest) (fun sig h => hn.trans (hlen sig h)) hstack hW (by rw [hb]; exact hdg)
    (fun vm₁ hW₁ => ⟨hf.1, hf.2, hPc (T.setVm vm₁) hT hW₁⟩) with ⟨v, vm₁, ⟨U', l2, c2, s2⟩, hW₁, X', ⟨g', mk, t, L, e1, e2, hq, h1, hL, h2, h3⟩, st⟩ | ⟨q, vm₁, ⟨U', l2, c2, s2⟩, hW₁, X', ⟨g', mk, t, L, E, ce, e1, e2, hq, hce, hcv, hcl, h1, hL, h2, h3⟩, st⟩
  · dsimp only [Pt.U, Pt.locs, Pt.cells, Pt.slots] at X' e1 e2 h1 h2 h3 st
    subst h1; subst h2; subst h3
    exact Or.inl ⟨v, (T.setVm vm₁).calling g' mk (Value.ref b :: As).toArray, t, U', L, hT, X', hL, e1, e2, hq, st⟩
  · dsimp only [Pt.U, Pt.locs, Pt.cells, Pt.slots] at X' e1 e2 h1 h2 h3 st hcl
    subst h1; subst h2; subst h3
    exact Or.inr ⟨q, (T.setVm vm₁).calling g' mk (Value.ref b :: As).toArray, t, U', L, E, ce, hT, X', hL, e1, e2, hq, hce, hcv, vx_cls hW₁ hcl, st⟩
theorem vx_runSX {hh : List (Nat × Nat × Nat × Nat)} (S : CallFix p m c cc nL s args Ts own) (hM : vx_Met l y ws rm Pc Qc XC mc ms free) (cw : vx_CSW R s args own index y bytes maxL ret hh ws rm mc ms n) (hp : PreS s H Pc As)
    (hg : g.method = m) (hn : As.length = n) (hsize : g.locals.size = nL) (hstack : g.stack = As.reverse ++ rest) (hW : 2 * g.monitorRoom + (rest.map fun v => v.category).sum ≤ 8) (hdg : decode cc g.pc = .ok (.invokestatic index, 3)) (hf : cells + mc ≤ R.cells ∧ slots + ms ≤ R.slots) :
    vx_Run p l e R s m args below meth c H locs cells slots mc ms g rest (Qc As.toArray) XC free := by
  obtain ⟨⟨hrc, hrs, hfr, hlo, hws, hcw⟩, hcode, hini, hy, hlen, hl, hstt⟩ := cw
  have hK : vx_Back l R p e below s args y 3 8 (PreOf R mc ms Pc) (PostOf Qc mc ms free) (vx_Post XC mc ms free) := vx_backW (hh := hh) (bytes := bytes) (maxL := maxL) (ret := ret) hM hp.1 hrc hrs hfr hlo hws hcw (fun a' U hW => word_at hW (Or.inl (by first | rfl | simp [Cond.onTables, Cond.keeps, Cond.steady])) hini)
  obtain ⟨hx, hb, hml, ho, -⟩ := S
  intro T hT X
  rcases vx_callSX X hx (hh := hh) (bytes := bytes) (maxL := maxL) (ret := ret) ho hl hstt hini hcode hy hK hg (hsize.trans hml.symm) (argsL := As) (rest := rest) (fun sig h => hn.trans (hlen sig h)) hstack hW (by rw [hb]; exact hdg)
    (fun vm₁ hW₁ => ⟨hf.1, hf.2, hp.2 (T.setVm vm₁) hT hW₁⟩) with ⟨v, vm₁, ⟨U', l2, c2, s2⟩, hW₁, X', ⟨g', mk, t, L, e1, e2, hq, h1, hL, h2, h3⟩, st⟩ | ⟨q, vm₁, ⟨U', l2, c2, s2⟩, hW₁, X', ⟨g', mk, t, L, E, ce, e1, e2, hq, hce, hcv, hcl, h1, hL, h2, h3⟩, st⟩
  · dsimp only [Pt.U, Pt.locs, Pt.cells, Pt.slots] at X' e1 e2 h1 h2 h3 st
    subst h1; subst h2; subst h3
    exact Or.inl ⟨v, (T.setVm vm₁).calling g' mk As.toArray, t, U', L, hT, X', hL, e1, e2, hq, st⟩
  · dsimp only [Pt.U, Pt.locs, Pt.cells, Pt.slots] at X' e1 e2 h1 h2 h3 st hcl
    subst h1; subst h2; subst h3
    exact Or.inr ⟨q, (T.setVm vm₁).calling g' mk As.toArray, t, U', L, E, ce, hT, X', hL, e1, e2, hq, hce, hcv, vx_cls hW₁ hcl, st⟩
end
end VXH
theorem vx_ofWH {l : Launch} {y : MethodName} {ws ws' : List Cond} {rm : Room} {Pc : Array Value → State → Prop} {Qc : Array Value → State → Outcome → State → Prop} {XC : String → State → State → Prop} {mc ms : Nat} {free : Addr → Prop} {cc : ByteArray} {maxL : Nat} {ret : Option FieldType} {hh : List (Nat × Nat × Nat × Nat)}
    (hy : plainName y.cls = true) (hw : ws = Cond.codeWith y cc maxL ret hh :: ws')
    (body : ∀ p e s m args below meth c s₁, BodyLoose p l y (headSpec ws rm) cc maxL ret e s m args below meth c s₁ → c.maxLocals = maxL → Pc args s →
      W p l e (headSpec ws rm).room s m args below meth c s.heap [] 0 0 (vx_MQ below Qc XC args s mc ms free) (entryFrame m args maxL)) : vx_Met l y ws rm Pc Qc XC mc ms free := by
  refine MetFree.of_bodyS (code := cc) (maxLocals := maxL) (ret := ret) hy ?_ ?_
  · intro args s m h hn
    obtain ⟨m9, meth, c, hn9, h1, h2, h3, h4, -, h5, h6, -⟩ := Cond.codeWith_spec (atoms_spec (ws := ws) h _ (by rw [hw]; exact List.mem_cons_self))
    cases hn.symm.trans hn9
    exact ⟨meth, c, h1, h2, h3, h4, h5, h6⟩
  · intro p e s m args below meth c s₁ B hml hP _
    have hh0 : s₁.heap = s.heap := by rw [B.state]; rfl
    obtain ⟨t, a1, o, b1, b2, b3⟩ := body p e s m args below meth c s₁ B hml hP s₁ hh0 (Stand.of_body B)
    exact ⟨t, o, a1, b1, b2, b3⟩
/-! ===== END ===== -/
def RX0 : String := "QuadSnail$Garden"
def TX0 : u_T := fun k => match k with
  | 0 => ("QuadSnail$Garden", "first", "LQuadSnail$Snail;", true)
  | 1 => ("QuadSnail$Garden", "second", "LQuadSnail$Snail;", true)
  | 2 => ("QuadSnail$Garden", "third", "LQuadSnail$Snail;", true)
  | 3 => ("QuadSnail$Garden", "fourth", "LQuadSnail$Snail;", true)
  | 4 => ("QuadSnail$Garden", "rule", "I", false)
  | _ => ("QuadSnail$Garden", "counts", "I", false)
def tyX0 : Nat → FieldType := fun k => match k with
  | 0 => .object "QuadSnail$Snail"
  | 1 => .object "QuadSnail$Snail"
  | 2 => .object "QuadSnail$Snail"
  | 3 => .object "QuadSnail$Snail"
  | 4 => .int
  | _ => .int
abbrev wsX00 : List Cond := u_ws RX0 TX0 6
theorem nmX0 : ∀ a, a < 6 → ∀ b, b < 6 → a ≠ b → (TX0 a).2.1 ≠ (TX0 b).2.1 := by decide +kernel
theorem tyX0_ok : ∀ k, k < 6 → parseFieldDescriptor (TX0 k).2.2.1 = some (tyX0 k) := by decide +kernel
abbrev cX0_init : ByteArray := prog_2_method_1_code
def yX0_init : MethodName := ⟨RX0, "<init>", "()V"⟩
abbrev cX0_snail : ByteArray := prog_2_method_2_code
def yX0_snail : MethodName := ⟨RX0, "snail", "(I)LQuadSnail$Snail;"⟩
abbrev cX0_copyFrom : ByteArray := prog_2_method_4_code
def yX0_copyFrom : MethodName := ⟨RX0, "copyFrom", "(LQuadSnail$Garden;)V"⟩
def RX1 : String := "QuadSnail$Log"
def TX1 : u_T := fun k => match k with
  | 0 => ("QuadSnail$Log", "cells", "[I", true)
  | 1 => ("QuadSnail$Log", "oldest", "I", false)
  | _ => ("QuadSnail$Log", "length", "I", false)
def tyX1 : Nat → FieldType := fun k => match k with
  | 0 => .array .int
  | 1 => .int
  | _ => .int
abbrev wsX10 : List Cond := u_ws RX1 TX1 3
theorem nmX1 : ∀ a, a < 3 → ∀ b, b < 3 → a ≠ b → (TX1 a).2.1 ≠ (TX1 b).2.1 := by decide +kernel
theorem tyX1_ok : ∀ k, k < 3 → parseFieldDescriptor (TX1 k).2.2.1 = some (tyX1 k) := by decide +kernel
abbrev cX1_init : ByteArray := prog_3_method_1_code
def yX1_init : MethodName := ⟨RX1, "<init>", "()V"⟩
abbrev cX1_add : ByteArray := prog_3_method_2_code
def yX1_add : MethodName := ⟨RX1, "add", "(III)V"⟩
abbrev cX1_dropLatest : ByteArray := prog_3_method_3_code
def yX1_dropLatest : MethodName := ⟨RX1, "dropLatest", "()V"⟩
abbrev cX1_step : ByteArray := prog_3_method_4_code
def yX1_step : MethodName := ⟨RX1, "step", "(I)I"⟩
abbrev cX1_spent : ByteArray := prog_3_method_5_code
def yX1_spent : MethodName := ⟨RX1, "spent", "(I)I"⟩
abbrev cX1_before : ByteArray := prog_3_method_6_code
def yX1_before : MethodName := ⟨RX1, "before", "(I)I"⟩
abbrev cX1_speed : ByteArray := prog_3_method_7_code
def yX1_speed : MethodName := ⟨RX1, "speed", "()D"⟩
abbrev cX1_copyFrom : ByteArray := prog_3_method_8_code
def yX1_copyFrom : MethodName := ⟨RX1, "copyFrom", "(LQuadSnail$Log;)V"⟩
abbrev cX1_read : ByteArray := prog_3_method_9_code
def yX1_read : MethodName := ⟨RX1, "read", "(II)I"⟩
abbrev cX1_write : ByteArray := prog_3_method_10_code
def yX1_write : MethodName := ⟨RX1, "write", "(II)V"⟩
abbrev cX1_rowOf : ByteArray := prog_3_method_11_code
def yX1_rowOf : MethodName := ⟨RX1, "rowOf", "(I)I"⟩
def RX2 : String := "QuadSnail$OrderText"
def TX2 : u_T := fun k => match k with
  | 0 => ("QuadSnail$OrderText", "signs", "[C", true)
  | _ => ("QuadSnail$OrderText", "length", "I", false)
def tyX2 : Nat → FieldType := fun k => match k with
  | 0 => .array .char
  | _ => .int
abbrev wsX20 : List Cond := u_ws RX2 TX2 2
theorem nmX2 : ∀ a, a < 2 → ∀ b, b < 2 → a ≠ b → (TX2 a).2.1 ≠ (TX2 b).2.1 := by decide +kernel
theorem tyX2_ok : ∀ k, k < 2 → parseFieldDescriptor (TX2 k).2.2.1 = some (tyX2 k) := by decide +kernel
abbrev cX2_init : ByteArray := prog_4_method_1_code
def yX2_init : MethodName := ⟨RX2, "<init>", "()V"⟩
def RX3 : String := "QuadSnail$Records"
def TX3 : u_T := fun k => match k with
  | 0 => ("QuadSnail$Records", "first", "LQuadSnail$Garden;", true)
  | 1 => ("QuadSnail$Records", "second", "LQuadSnail$Garden;", true)
  | 2 => ("QuadSnail$Records", "third", "LQuadSnail$Garden;", true)
  | 3 => ("QuadSnail$Records", "fourth", "LQuadSnail$Garden;", true)
  | 4 => ("QuadSnail$Records", "oldest", "I", false)
  | _ => ("QuadSnail$Records", "length", "I", false)
def tyX3 : Nat → FieldType := fun k => match k with
  | 0 => .object "QuadSnail$Garden"
  | 1 => .object "QuadSnail$Garden"
  | 2 => .object "QuadSnail$Garden"
  | 3 => .object "QuadSnail$Garden"
  | 4 => .int
  | _ => .int
abbrev wsX30 : List Cond := u_ws RX3 TX3 6
theorem nmX3 : ∀ a, a < 6 → ∀ b, b < 6 → a ≠ b → (TX3 a).2.1 ≠ (TX3 b).2.1 := by decide +kernel
theorem tyX3_ok : ∀ k, k < 6 → parseFieldDescriptor (TX3 k).2.2.1 = some (tyX3 k) := by decide +kernel
abbrev cX3_init : ByteArray := prog_5_method_1_code
def yX3_init : MethodName := ⟨RX3, "<init>", "()V"⟩
abbrev cX3_keep : ByteArray := prog_5_method_2_code
def yX3_keep : MethodName := ⟨RX3, "keep", "(LQuadSnail$Garden;)V"⟩
abbrev cX3_latest : ByteArray := prog_5_method_4_code
def yX3_latest : MethodName := ⟨RX3, "latest", "()LQuadSnail$Garden;"⟩
def RX4 : String := "QuadSnail$Snail"
def TX4 : u_T := fun k => match k with
  | 0 => ("QuadSnail$Snail", "log", "LQuadSnail$Log;", true)
  | 1 => ("QuadSnail$Snail", "state", "I", false)
  | 2 => ("QuadSnail$Snail", "position", "I", false)
  | 3 => ("QuadSnail$Snail", "direction", "I", false)
  | 4 => ("QuadSnail$Snail", "countA", "I", false)
  | 5 => ("QuadSnail$Snail", "countB", "I", false)
  | 6 => ("QuadSnail$Snail", "errorSteps", "I", false)
  | 7 => ("QuadSnail$Snail", "offAtMarks", "I", false)
  | 8 => ("QuadSnail$Snail", "errors", "I", false)
  | 9 => ("QuadSnail$Snail", "slips", "I", false)
  | 10 => ("QuadSnail$Snail", "distance", "I", false)
  | _ => ("QuadSnail$Snail", "ticks", "I", false)
def tyX4 : Nat → FieldType := fun k => match k with
  | 0 => .object "QuadSnail$Log"
  | 1 => .int
  | 2 => .int
  | 3 => .int
  | 4 => .int
  | 5 => .int
  | 6 => .int
  | 7 => .int
  | 8 => .int
  | 9 => .int
  | 10 => .int
  | _ => .int
abbrev wsX40 : List Cond := u_ws RX4 TX4 12
theorem nmX4 : ∀ a, a < 12 → ∀ b, b < 12 → a ≠ b → (TX4 a).2.1 ≠ (TX4 b).2.1 := by decide +kernel
theorem tyX4_ok : ∀ k, k < 12 → parseFieldDescriptor (TX4 k).2.2.1 = some (tyX4 k) := by decide +kernel
abbrev cX4_init : ByteArray := prog_6_method_1_code
def yX4_init : MethodName := ⟨RX4, "<init>", "()V"⟩
abbrev cX4_ring : ByteArray := prog_6_method_2_code
def yX4_ring : MethodName := ⟨RX4, "ring", "(I)I"⟩
abbrev cX4_neighbour : ByteArray := prog_6_method_3_code
def yX4_neighbour : MethodName := ⟨RX4, "neighbour", "(I)I"⟩
abbrev cX4_stepUnder : ByteArray := prog_6_method_4_code
def yX4_stepUnder : MethodName := ⟨RX4, "stepUnder", "(II)I"⟩
abbrev cX4_hasRoom : ByteArray := prog_6_method_5_code
def yX4_hasRoom : MethodName := ⟨RX4, "hasRoom", "(II)Z"⟩
abbrev cX4_sense : ByteArray := prog_6_method_6_code
def yX4_sense : MethodName := ⟨RX4, "sense", "(III)V"⟩
abbrev cX4_canRetrace : ByteArray := prog_6_method_7_code
def yX4_canRetrace : MethodName := ⟨RX4, "canRetrace", "(I)Z"⟩
abbrev cX4_retrace : ByteArray := prog_6_method_8_code
def yX4_retrace : MethodName := ⟨RX4, "retrace", "(I)V"⟩
abbrev cX4_move : ByteArray := prog_6_method_9_code
def yX4_move : MethodName := ⟨RX4, "move", "(III)V"⟩
abbrev cX4_book : ByteArray := prog_6_method_10_code
def yX4_book : MethodName := ⟨RX4, "book", "(II)V"⟩
abbrev cX4_turnsOver : ByteArray := prog_6_method_11_code
def yX4_turnsOver : MethodName := ⟨RX4, "turnsOver", "(I)I"⟩
abbrev cX4_placeIn : ByteArray := prog_6_method_12_code
def yX4_placeIn : MethodName := ⟨RX4, "placeIn", "(I)I"⟩
abbrev cX4_passMark : ByteArray := prog_6_method_13_code
def yX4_passMark : MethodName := ⟨RX4, "passMark", "(I)I"⟩
abbrev cX4_copyFrom : ByteArray := prog_6_method_14_code
def yX4_copyFrom : MethodName := ⟨RX4, "copyFrom", "(LQuadSnail$Snail;)V"⟩
def RX5 : String := "QuadSnail"
def TX5 : u_T := fun k => match k with
  | 0 => ("QuadSnail", "now", "LQuadSnail$Garden;", true)
  | 1 => ("QuadSnail", "trial", "LQuadSnail$Garden;", true)
  | 2 => ("QuadSnail", "snapshot", "LQuadSnail$Garden;", true)
  | 3 => ("QuadSnail", "records", "LQuadSnail$Records;", true)
  | 4 => ("QuadSnail", "text", "LQuadSnail$OrderText;", true)
  | _ => ("QuadSnail", "hasSnapshot", "Z", false)
def tyX5 : Nat → FieldType := fun k => match k with
  | 0 => .object "QuadSnail$Garden"
  | 1 => .object "QuadSnail$Garden"
  | 2 => .object "QuadSnail$Garden"
  | 3 => .object "QuadSnail$Records"
  | 4 => .object "QuadSnail$OrderText"
  | _ => .boolean
abbrev wsX50 : List Cond := u_ws RX5 TX5 6
theorem nmX5 : ∀ a, a < 6 → ∀ b, b < 6 → a ≠ b → (TX5 a).2.1 ≠ (TX5 b).2.1 := by decide +kernel
theorem tyX5_ok : ∀ k, k < 6 → parseFieldDescriptor (TX5 k).2.2.1 = some (tyX5 k) := by decide +kernel
abbrev cX5_init : ByteArray := prog_1_method_1_code
def yX5_init : MethodName := ⟨RX5, "<init>", "()V"⟩
abbrev cX5_feel : ByteArray := prog_1_method_2_code
def yX5_feel : MethodName := ⟨RX5, "feel", "(III)I"⟩
abbrev cX5_crawl : ByteArray := prog_1_method_3_code
def yX5_crawl : MethodName := ⟨RX5, "crawl", "(II)I"⟩
abbrev cX5_meetMark : ByteArray := prog_1_method_4_code
def yX5_meetMark : MethodName := ⟨RX5, "meetMark", "(I)I"⟩
abbrev cX5_goBack : ByteArray := prog_1_method_5_code
def yX5_goBack : MethodName := ⟨RX5, "goBack", "(II)I"⟩
abbrev cX5_setRule : ByteArray := prog_1_method_6_code
def yX5_setRule : MethodName := ⟨RX5, "setRule", "(I)I"⟩
abbrev cX5_setCounts : ByteArray := prog_1_method_7_code
def yX5_setCounts : MethodName := ⟨RX5, "setCounts", "(I)I"⟩
abbrev cX5_stateOf : ByteArray := prog_1_method_16_code
def yX5_stateOf : MethodName := ⟨RX5, "stateOf", "(I)I"⟩
abbrev cX5_positionOf : ByteArray := prog_1_method_17_code
def yX5_positionOf : MethodName := ⟨RX5, "positionOf", "(I)I"⟩
abbrev cX5_positionByTracks : ByteArray := prog_1_method_18_code
def yX5_positionByTracks : MethodName := ⟨RX5, "positionByTracks", "(I)I"⟩
abbrev cX5_turnsOf : ByteArray := prog_1_method_19_code
def yX5_turnsOf : MethodName := ⟨RX5, "turnsOf", "(I)I"⟩
abbrev cX5_placeOf : ByteArray := prog_1_method_20_code
def yX5_placeOf : MethodName := ⟨RX5, "placeOf", "(I)I"⟩
abbrev cX5_directionOf : ByteArray := prog_1_method_21_code
def yX5_directionOf : MethodName := ⟨RX5, "directionOf", "(I)I"⟩
abbrev cX5_countOfA : ByteArray := prog_1_method_22_code
def yX5_countOfA : MethodName := ⟨RX5, "countOfA", "(I)I"⟩
abbrev cX5_leader : ByteArray := prog_1_method_23_code
def yX5_leader : MethodName := ⟨RX5, "leader", "()I"⟩
abbrev cX5_stepTo : ByteArray := prog_1_method_24_code
def yX5_stepTo : MethodName := ⟨RX5, "stepTo", "(II)I"⟩
abbrev cX5_logLength : ByteArray := prog_1_method_25_code
def yX5_logLength : MethodName := ⟨RX5, "logLength", "(I)I"⟩
abbrev cX5_loggedStep : ByteArray := prog_1_method_26_code
def yX5_loggedStep : MethodName := ⟨RX5, "loggedStep", "(II)I"⟩
abbrev cX5_speedOf : ByteArray := prog_1_method_27_code
def yX5_speedOf : MethodName := ⟨RX5, "speedOf", "(I)D"⟩
abbrev cX5_errorsOf : ByteArray := prog_1_method_28_code
def yX5_errorsOf : MethodName := ⟨RX5, "errorsOf", "(I)I"⟩
abbrev cX5_slipsOf : ByteArray := prog_1_method_29_code
def yX5_slipsOf : MethodName := ⟨RX5, "slipsOf", "(I)I"⟩
abbrev cX5_distanceOf : ByteArray := prog_1_method_30_code
def yX5_distanceOf : MethodName := ⟨RX5, "distanceOf", "(I)I"⟩
abbrev cX5_ticksOf : ByteArray := prog_1_method_31_code
def yX5_ticksOf : MethodName := ⟨RX5, "ticksOf", "(I)I"⟩
abbrev cX5_counts : ByteArray := prog_1_method_32_code
def yX5_counts : MethodName := ⟨RX5, "counts", "()I"⟩
abbrev cX5_rule : ByteArray := prog_1_method_33_code
def yX5_rule : MethodName := ⟨RX5, "rule", "()I"⟩
abbrev cX5_snailNumbered : ByteArray := prog_1_method_35_code
def yX5_snailNumbered : MethodName := ⟨RX5, "snailNumbered", "(I)LQuadSnail$Snail;"⟩
abbrev cX5_demandState : ByteArray := prog_1_method_36_code
def yX5_demandState : MethodName := ⟨RX5, "demandState", "(I)V"⟩
abbrev cX5_demandRoom : ByteArray := prog_1_method_37_code
def yX5_demandRoom : MethodName := ⟨RX5, "demandRoom", "(LQuadSnail$Snail;II)V"⟩
def RX6 : String := "QuadSnailModel"
def TX6 : u_T := fun k => match k with
  | _ => ("", "", "", false)
def tyX6 : Nat → FieldType := fun k => match k with
  | _ => .int
abbrev wsX60 : List Cond := u_ws RX6 TX6 0
theorem nmX6 : ∀ a, a < 0 → ∀ b, b < 0 → a ≠ b → (TX6 a).2.1 ≠ (TX6 b).2.1 := by decide +kernel
theorem tyX6_ok : ∀ k, k < 0 → parseFieldDescriptor (TX6 k).2.2.1 = some (tyX6 k) := by decide +kernel
def RJ9 : String := "java/lang/Math"
def TJ9 : u_T := fun k => match k with
  | _ => ("", "", "", false)
def tyJ9 : Nat → FieldType := fun k => match k with
  | _ => .int
abbrev wsJ90 : List Cond := u_ws RJ9 TJ9 0
theorem nmJ9 : ∀ a, a < 0 → ∀ b, b < 0 → a ≠ b → (TJ9 a).2.1 ≠ (TJ9 b).2.1 := by decide +kernel
theorem tyJ9_ok : ∀ k, k < 0 → parseFieldDescriptor (TJ9 k).2.2.1 = some (tyJ9 k) := by decide +kernel
abbrev cJ9_floorDiv_7cf53 : ByteArray := prog_13_method_47_code
def yJ9_floorDiv_7cf53 : MethodName := ⟨RJ9, "floorDiv", "(II)I"⟩
abbrev cJ9_floorMod_7cf53 : ByteArray := prog_13_method_50_code
def yJ9_floorMod_7cf53 : MethodName := ⟨RJ9, "floorMod", "(II)I"⟩
abbrev cJ9_abs_0f7a4 : ByteArray := prog_13_method_59_code
def yJ9_abs_0f7a4 : MethodName := ⟨RJ9, "abs", "(I)I"⟩
def RJ0 : String := "java/lang/String"
def TJ0 : u_T := fun k => match k with
  | _ => ("", "", "", false)
def tyJ0 : Nat → FieldType := fun k => match k with
  | _ => .int
abbrev wsJ00 : List Cond := u_ws RJ0 TJ0 0
theorem nmJ0 : ∀ a, a < 0 → ∀ b, b < 0 → a ≠ b → (TJ0 a).2.1 ≠ (TJ0 b).2.1 := by decide +kernel
theorem tyJ0_ok : ∀ k, k < 0 → parseFieldDescriptor (TJ0 k).2.2.1 = some (tyJ0 k) := by decide +kernel
def RL : String := "QuadSnailLaw"
abbrev cL_cell : ByteArray := method_2_code
def yL_cell : MethodName := ⟨RL, "cell", "([II)I"⟩
abbrev cL_low : ByteArray := method_3_code
def yL_low : MethodName := ⟨RL, "low", "(II)I"⟩
abbrev cL_size : ByteArray := method_4_code
def yL_size : MethodName := ⟨RL, "size", "(I)I"⟩
abbrev cL_does : ByteArray := method_5_code
def yL_does : MethodName := ⟨RL, "does", "(LQuadSnail;II)Z"⟩
abbrev cL_isFelt : ByteArray := method_6_code
def yL_isFelt : MethodName := ⟨RL, "isFelt", "(LQuadSnail;III)Z"⟩
abbrev cL_isMarked : ByteArray := method_7_code
def yL_isMarked : MethodName := ⟨RL, "isMarked", "(LQuadSnail;I)Z"⟩
abbrev cL_isBack : ByteArray := method_8_code
def yL_isBack : MethodName := ⟨RL, "isBack", "(LQuadSnail;II)Z"⟩
abbrev cL_isThereAndBack : ByteArray := method_9_code
def yL_isThereAndBack : MethodName := ⟨RL, "isThereAndBack", "(LQuadSnail;III)Z"⟩
abbrev cL_isSnailSo : ByteArray := method_10_code
def yL_isSnailSo : MethodName := ⟨RL, "isSnailSo", "(LQuadSnail;I)Z"⟩
abbrev cL_law : ByteArray := code
def yL_law : MethodName := ⟨RL, "law", "([I)Z"⟩
def wsJ9_floorDiv_7cf53 : List Cond := .code yJ9_floorDiv_7cf53 cJ9_floorDiv_7cf53 3 (some .int) :: ([])
def wsJ9_floorMod_7cf53 : List Cond := .code yJ9_floorMod_7cf53 cJ9_floorMod_7cf53 3 (some .int) :: ([])
def wsJ9_abs_0f7a4 : List Cond := .code yJ9_abs_0f7a4 cJ9_abs_0f7a4 1 (some .int) :: ([])
abbrev vwCl : List vw_C := [(RX0, TX0, 6), (RX1, TX1, 3), (RX2, TX2, 2), (RX3, TX3, 6), (RX4, TX4, 12), (RX5, TX5, 6)]
end
section
theorem dX0_init_0 : decode cX0_init 0 = .ok (.aload_n 0, 1) := by decide +kernel
theorem dX0_init_1 : decode cX0_init 1 = .ok (.invokespecial 3, 3) := by decide +kernel
theorem dX0_init_4 : decode cX0_init 4 = .ok (.aload_n 0, 1) := by decide +kernel
theorem dX0_init_5 : decode cX0_init 5 = .ok (.new 9, 3) := by decide +kernel
theorem dX0_init_8 : decode cX0_init 8 = .ok (.dup, 1) := by decide +kernel
theorem dX0_init_9 : decode cX0_init 9 = .ok (.invokespecial 11, 3) := by decide +kernel
theorem dX0_init_12 : decode cX0_init 12 = .ok (.putfield 12, 3) := by decide +kernel
theorem dX0_init_15 : decode cX0_init 15 = .ok (.aload_n 0, 1) := by decide +kernel
theorem dX0_init_16 : decode cX0_init 16 = .ok (.new 9, 3) := by decide +kernel
theorem dX0_init_19 : decode cX0_init 19 = .ok (.dup, 1) := by decide +kernel
theorem dX0_init_20 : decode cX0_init 20 = .ok (.invokespecial 11, 3) := by decide +kernel
theorem dX0_init_23 : decode cX0_init 23 = .ok (.putfield 18, 3) := by decide +kernel
theorem dX0_init_26 : decode cX0_init 26 = .ok (.aload_n 0, 1) := by decide +kernel
theorem dX0_init_27 : decode cX0_init 27 = .ok (.new 9, 3) := by decide +kernel
theorem dX0_init_30 : decode cX0_init 30 = .ok (.dup, 1) := by decide +kernel
theorem dX0_init_31 : decode cX0_init 31 = .ok (.invokespecial 11, 3) := by decide +kernel
theorem dX0_init_34 : decode cX0_init 34 = .ok (.putfield 21, 3) := by decide +kernel
theorem dX0_init_37 : decode cX0_init 37 = .ok (.aload_n 0, 1) := by decide +kernel
theorem dX0_init_38 : decode cX0_init 38 = .ok (.new 9, 3) := by decide +kernel
theorem dX0_init_41 : decode cX0_init 41 = .ok (.dup, 1) := by decide +kernel
theorem dX0_init_42 : decode cX0_init 42 = .ok (.invokespecial 11, 3) := by decide +kernel
theorem dX0_init_45 : decode cX0_init 45 = .ok (.putfield 24, 3) := by decide +kernel
theorem dX0_init_48 : decode cX0_init 48 = .ok (.aload_n 0, 1) := by decide +kernel
theorem dX0_init_49 : decode cX0_init 49 = .ok (.iconst 0, 1) := by decide +kernel
theorem dX0_init_50 : decode cX0_init 50 = .ok (.putfield 27, 3) := by decide +kernel
theorem dX0_init_53 : decode cX0_init 53 = .ok (.aload_n 0, 1) := by decide +kernel
theorem dX0_init_54 : decode cX0_init 54 = .ok (.bipush 24, 2) := by decide +kernel
theorem dX0_init_56 : decode cX0_init 56 = .ok (.putfield 31, 3) := by decide +kernel
theorem dX0_init_59 : decode cX0_init 59 = .ok (.return_, 1) := by decide +kernel
theorem dX0_snail_0 : decode cX0_snail 0 = .ok (.iload_n 1, 1) := by decide +kernel
theorem dX0_snail_1 : decode cX0_snail 1 = .ok (.tableswitch 42 0 2 #[27, 32, 37], 27) := by decide +kernel
theorem dX0_snail_28 : decode cX0_snail 28 = .ok (.aload_n 0, 1) := by decide +kernel
theorem dX0_snail_29 : decode cX0_snail 29 = .ok (.getfield 12, 3) := by decide +kernel
theorem dX0_snail_32 : decode cX0_snail 32 = .ok (.areturn, 1) := by decide +kernel
theorem dX0_snail_33 : decode cX0_snail 33 = .ok (.aload_n 0, 1) := by decide +kernel
theorem dX0_snail_34 : decode cX0_snail 34 = .ok (.getfield 18, 3) := by decide +kernel
theorem dX0_snail_37 : decode cX0_snail 37 = .ok (.areturn, 1) := by decide +kernel
theorem dX0_snail_38 : decode cX0_snail 38 = .ok (.aload_n 0, 1) := by decide +kernel
theorem dX0_snail_39 : decode cX0_snail 39 = .ok (.getfield 21, 3) := by decide +kernel
theorem dX0_snail_42 : decode cX0_snail 42 = .ok (.areturn, 1) := by decide +kernel
theorem dX0_snail_43 : decode cX0_snail 43 = .ok (.aload_n 0, 1) := by decide +kernel
theorem dX0_snail_44 : decode cX0_snail 44 = .ok (.getfield 24, 3) := by decide +kernel
theorem dX0_snail_47 : decode cX0_snail 47 = .ok (.areturn, 1) := by decide +kernel
theorem dX0_copyFrom_0 : decode cX0_copyFrom 0 = .ok (.aload_n 0, 1) := by decide +kernel
theorem dX0_copyFrom_1 : decode cX0_copyFrom 1 = .ok (.getfield 12, 3) := by decide +kernel
theorem dX0_copyFrom_4 : decode cX0_copyFrom 4 = .ok (.aload_n 1, 1) := by decide +kernel
theorem dX0_copyFrom_5 : decode cX0_copyFrom 5 = .ok (.getfield 12, 3) := by decide +kernel
theorem dX0_copyFrom_8 : decode cX0_copyFrom 8 = .ok (.invokevirtual 37, 3) := by decide +kernel
theorem dX0_copyFrom_11 : decode cX0_copyFrom 11 = .ok (.aload_n 0, 1) := by decide +kernel
theorem dX0_copyFrom_12 : decode cX0_copyFrom 12 = .ok (.getfield 18, 3) := by decide +kernel
theorem dX0_copyFrom_15 : decode cX0_copyFrom 15 = .ok (.aload_n 1, 1) := by decide +kernel
theorem dX0_copyFrom_16 : decode cX0_copyFrom 16 = .ok (.getfield 18, 3) := by decide +kernel
theorem dX0_copyFrom_19 : decode cX0_copyFrom 19 = .ok (.invokevirtual 37, 3) := by decide +kernel
theorem dX0_copyFrom_22 : decode cX0_copyFrom 22 = .ok (.aload_n 0, 1) := by decide +kernel
theorem dX0_copyFrom_23 : decode cX0_copyFrom 23 = .ok (.getfield 21, 3) := by decide +kernel
theorem dX0_copyFrom_26 : decode cX0_copyFrom 26 = .ok (.aload_n 1, 1) := by decide +kernel
theorem dX0_copyFrom_27 : decode cX0_copyFrom 27 = .ok (.getfield 21, 3) := by decide +kernel
theorem dX0_copyFrom_30 : decode cX0_copyFrom 30 = .ok (.invokevirtual 37, 3) := by decide +kernel
theorem dX0_copyFrom_33 : decode cX0_copyFrom 33 = .ok (.aload_n 0, 1) := by decide +kernel
theorem dX0_copyFrom_34 : decode cX0_copyFrom 34 = .ok (.getfield 24, 3) := by decide +kernel
theorem dX0_copyFrom_37 : decode cX0_copyFrom 37 = .ok (.aload_n 1, 1) := by decide +kernel
theorem dX0_copyFrom_38 : decode cX0_copyFrom 38 = .ok (.getfield 24, 3) := by decide +kernel
theorem dX0_copyFrom_41 : decode cX0_copyFrom 41 = .ok (.invokevirtual 37, 3) := by decide +kernel
theorem dX0_copyFrom_44 : decode cX0_copyFrom 44 = .ok (.aload_n 0, 1) := by decide +kernel
theorem dX0_copyFrom_45 : decode cX0_copyFrom 45 = .ok (.aload_n 1, 1) := by decide +kernel
theorem dX0_copyFrom_46 : decode cX0_copyFrom 46 = .ok (.getfield 27, 3) := by decide +kernel
theorem dX0_copyFrom_49 : decode cX0_copyFrom 49 = .ok (.putfield 27, 3) := by decide +kernel
theorem dX0_copyFrom_52 : decode cX0_copyFrom 52 = .ok (.aload_n 0, 1) := by decide +kernel
theorem dX0_copyFrom_53 : decode cX0_copyFrom 53 = .ok (.aload_n 1, 1) := by decide +kernel
theorem dX0_copyFrom_54 : decode cX0_copyFrom 54 = .ok (.getfield 31, 3) := by decide +kernel
theorem dX0_copyFrom_57 : decode cX0_copyFrom 57 = .ok (.putfield 31, 3) := by decide +kernel
theorem dX0_copyFrom_60 : decode cX0_copyFrom 60 = .ok (.return_, 1) := by decide +kernel
theorem dX1_init_0 : decode cX1_init 0 = .ok (.aload_n 0, 1) := by decide +kernel
theorem dX1_init_1 : decode cX1_init 1 = .ok (.invokespecial 3, 3) := by decide +kernel
theorem dX1_init_4 : decode cX1_init 4 = .ok (.aload_n 0, 1) := by decide +kernel
theorem dX1_init_5 : decode cX1_init 5 = .ok (.bipush 48, 2) := by decide +kernel
theorem dX1_init_7 : decode cX1_init 7 = .ok (.newarray .int, 2) := by decide +kernel
theorem dX1_init_9 : decode cX1_init 9 = .ok (.putfield 11, 3) := by decide +kernel
theorem dX1_init_12 : decode cX1_init 12 = .ok (.return_, 1) := by decide +kernel
theorem dX1_add_0 : decode cX1_add 0 = .ok (.aload_n 0, 1) := by decide +kernel
theorem dX1_add_1 : decode cX1_add 1 = .ok (.getfield 15, 3) := by decide +kernel
theorem dX1_add_4 : decode cX1_add 4 = .ok (.bipush 16, 2) := by decide +kernel
theorem dX1_add_6 : decode cX1_add 6 = .ok (.if_icmp .ge 16, 3) := by decide +kernel
theorem dX1_add_9 : decode cX1_add 9 = .ok (.aload_n 0, 1) := by decide +kernel
theorem dX1_add_10 : decode cX1_add 10 = .ok (.dup, 1) := by decide +kernel
theorem dX1_add_11 : decode cX1_add 11 = .ok (.getfield 15, 3) := by decide +kernel
theorem dX1_add_14 : decode cX1_add 14 = .ok (.iconst 1, 1) := by decide +kernel
theorem dX1_add_15 : decode cX1_add 15 = .ok (.iadd, 1) := by decide +kernel
theorem dX1_add_16 : decode cX1_add 16 = .ok (.putfield 15, 3) := by decide +kernel
theorem dX1_add_19 : decode cX1_add 19 = .ok (.goto 16, 3) := by decide +kernel
theorem dX1_add_22 : decode cX1_add 22 = .ok (.aload_n 0, 1) := by decide +kernel
theorem dX1_add_23 : decode cX1_add 23 = .ok (.aload_n 0, 1) := by decide +kernel
theorem dX1_add_24 : decode cX1_add 24 = .ok (.getfield 19, 3) := by decide +kernel
theorem dX1_add_27 : decode cX1_add 27 = .ok (.iconst 1, 1) := by decide +kernel
theorem dX1_add_28 : decode cX1_add 28 = .ok (.iadd, 1) := by decide +kernel
theorem dX1_add_29 : decode cX1_add 29 = .ok (.bipush 16, 2) := by decide +kernel
theorem dX1_add_31 : decode cX1_add 31 = .ok (.irem, 1) := by decide +kernel
theorem dX1_add_32 : decode cX1_add 32 = .ok (.putfield 19, 3) := by decide +kernel
theorem dX1_add_35 : decode cX1_add 35 = .ok (.aload_n 0, 1) := by decide +kernel
theorem dX1_add_36 : decode cX1_add 36 = .ok (.aload_n 0, 1) := by decide +kernel
theorem dX1_add_37 : decode cX1_add 37 = .ok (.getfield 15, 3) := by decide +kernel
theorem dX1_add_40 : decode cX1_add 40 = .ok (.iconst 1, 1) := by decide +kernel
theorem dX1_add_41 : decode cX1_add 41 = .ok (.isub, 1) := by decide +kernel
theorem dX1_add_42 : decode cX1_add 42 = .ok (.invokevirtual 22, 3) := by decide +kernel
theorem dX1_add_45 : decode cX1_add 45 = .ok (.istore 4, 2) := by decide +kernel
theorem dX1_add_47 : decode cX1_add 47 = .ok (.aload_n 0, 1) := by decide +kernel
theorem dX1_add_48 : decode cX1_add 48 = .ok (.iload 4, 2) := by decide +kernel
theorem dX1_add_50 : decode cX1_add 50 = .ok (.iconst 0, 1) := by decide +kernel
theorem dX1_add_51 : decode cX1_add 51 = .ok (.iadd, 1) := by decide +kernel
theorem dX1_add_52 : decode cX1_add 52 = .ok (.iload_n 1, 1) := by decide +kernel
theorem dX1_add_53 : decode cX1_add 53 = .ok (.invokevirtual 26, 3) := by decide +kernel
theorem dX1_add_56 : decode cX1_add 56 = .ok (.aload_n 0, 1) := by decide +kernel
theorem dX1_add_57 : decode cX1_add 57 = .ok (.iload 4, 2) := by decide +kernel
theorem dX1_add_59 : decode cX1_add 59 = .ok (.iconst 1, 1) := by decide +kernel
theorem dX1_add_60 : decode cX1_add 60 = .ok (.iadd, 1) := by decide +kernel
theorem dX1_add_61 : decode cX1_add 61 = .ok (.iload_n 2, 1) := by decide +kernel
theorem dX1_add_62 : decode cX1_add 62 = .ok (.invokevirtual 26, 3) := by decide +kernel
theorem dX1_add_65 : decode cX1_add 65 = .ok (.aload_n 0, 1) := by decide +kernel
theorem dX1_add_66 : decode cX1_add 66 = .ok (.iload 4, 2) := by decide +kernel
theorem dX1_add_68 : decode cX1_add 68 = .ok (.iconst 2, 1) := by decide +kernel
theorem dX1_add_69 : decode cX1_add 69 = .ok (.iadd, 1) := by decide +kernel
theorem dX1_add_70 : decode cX1_add 70 = .ok (.iload_n 3, 1) := by decide +kernel
theorem dX1_add_71 : decode cX1_add 71 = .ok (.invokevirtual 26, 3) := by decide +kernel
theorem dX1_add_74 : decode cX1_add 74 = .ok (.return_, 1) := by decide +kernel
theorem dX1_dropLatest_0 : decode cX1_dropLatest 0 = .ok (.aload_n 0, 1) := by decide +kernel
theorem dX1_dropLatest_1 : decode cX1_dropLatest 1 = .ok (.getfield 15, 3) := by decide +kernel
theorem dX1_dropLatest_4 : decode cX1_dropLatest 4 = .ok (.ifCond .le 13, 3) := by decide +kernel
theorem dX1_dropLatest_7 : decode cX1_dropLatest 7 = .ok (.aload_n 0, 1) := by decide +kernel
theorem dX1_dropLatest_8 : decode cX1_dropLatest 8 = .ok (.dup, 1) := by decide +kernel
theorem dX1_dropLatest_9 : decode cX1_dropLatest 9 = .ok (.getfield 15, 3) := by decide +kernel
theorem dX1_dropLatest_12 : decode cX1_dropLatest 12 = .ok (.iconst 1, 1) := by decide +kernel
theorem dX1_dropLatest_13 : decode cX1_dropLatest 13 = .ok (.isub, 1) := by decide +kernel
theorem dX1_dropLatest_14 : decode cX1_dropLatest 14 = .ok (.putfield 15, 3) := by decide +kernel
theorem dX1_dropLatest_17 : decode cX1_dropLatest 17 = .ok (.return_, 1) := by decide +kernel
theorem dX1_step_0 : decode cX1_step 0 = .ok (.aload_n 0, 1) := by decide +kernel
theorem dX1_step_1 : decode cX1_step 1 = .ok (.iload_n 1, 1) := by decide +kernel
theorem dX1_step_2 : decode cX1_step 2 = .ok (.iconst 0, 1) := by decide +kernel
theorem dX1_step_3 : decode cX1_step 3 = .ok (.invokevirtual 30, 3) := by decide +kernel
theorem dX1_step_6 : decode cX1_step 6 = .ok (.ireturn, 1) := by decide +kernel
theorem dX1_spent_0 : decode cX1_spent 0 = .ok (.aload_n 0, 1) := by decide +kernel
theorem dX1_spent_1 : decode cX1_spent 1 = .ok (.iload_n 1, 1) := by decide +kernel
theorem dX1_spent_2 : decode cX1_spent 2 = .ok (.iconst 1, 1) := by decide +kernel
theorem dX1_spent_3 : decode cX1_spent 3 = .ok (.invokevirtual 30, 3) := by decide +kernel
theorem dX1_spent_6 : decode cX1_spent 6 = .ok (.ireturn, 1) := by decide +kernel
theorem dX1_before_0 : decode cX1_before 0 = .ok (.aload_n 0, 1) := by decide +kernel
theorem dX1_before_1 : decode cX1_before 1 = .ok (.iload_n 1, 1) := by decide +kernel
theorem dX1_before_2 : decode cX1_before 2 = .ok (.iconst 2, 1) := by decide +kernel
theorem dX1_before_3 : decode cX1_before 3 = .ok (.invokevirtual 30, 3) := by decide +kernel
theorem dX1_before_6 : decode cX1_before 6 = .ok (.ireturn, 1) := by decide +kernel
theorem dX1_speed_0 : decode cX1_speed 0 = .ok (.iconst 0, 1) := by decide +kernel
theorem dX1_speed_1 : decode cX1_speed 1 = .ok (.istore_n 1, 1) := by decide +kernel
theorem dX1_speed_2 : decode cX1_speed 2 = .ok (.iconst 0, 1) := by decide +kernel
theorem dX1_speed_3 : decode cX1_speed 3 = .ok (.istore_n 2, 1) := by decide +kernel
theorem dX1_speed_4 : decode cX1_speed 4 = .ok (.iconst 0, 1) := by decide +kernel
theorem dX1_speed_5 : decode cX1_speed 5 = .ok (.istore_n 3, 1) := by decide +kernel
theorem dX1_speed_6 : decode cX1_speed 6 = .ok (.iload_n 3, 1) := by decide +kernel
theorem dX1_speed_7 : decode cX1_speed 7 = .ok (.aload_n 0, 1) := by decide +kernel
theorem dX1_speed_8 : decode cX1_speed 8 = .ok (.getfield 15, 3) := by decide +kernel
theorem dX1_speed_11 : decode cX1_speed 11 = .ok (.if_icmp .ge 25, 3) := by decide +kernel
theorem dX1_speed_14 : decode cX1_speed 14 = .ok (.iload_n 1, 1) := by decide +kernel
theorem dX1_speed_15 : decode cX1_speed 15 = .ok (.aload_n 0, 1) := by decide +kernel
theorem dX1_speed_16 : decode cX1_speed 16 = .ok (.iload_n 3, 1) := by decide +kernel
theorem dX1_speed_17 : decode cX1_speed 17 = .ok (.invokevirtual 34, 3) := by decide +kernel
theorem dX1_speed_20 : decode cX1_speed 20 = .ok (.iadd, 1) := by decide +kernel
theorem dX1_speed_21 : decode cX1_speed 21 = .ok (.istore_n 1, 1) := by decide +kernel
theorem dX1_speed_22 : decode cX1_speed 22 = .ok (.iload_n 2, 1) := by decide +kernel
theorem dX1_speed_23 : decode cX1_speed 23 = .ok (.aload_n 0, 1) := by decide +kernel
theorem dX1_speed_24 : decode cX1_speed 24 = .ok (.iload_n 3, 1) := by decide +kernel
theorem dX1_speed_25 : decode cX1_speed 25 = .ok (.invokevirtual 37, 3) := by decide +kernel
theorem dX1_speed_28 : decode cX1_speed 28 = .ok (.iadd, 1) := by decide +kernel
theorem dX1_speed_29 : decode cX1_speed 29 = .ok (.istore_n 2, 1) := by decide +kernel
theorem dX1_speed_30 : decode cX1_speed 30 = .ok (.iinc 3 1, 3) := by decide +kernel
theorem dX1_speed_33 : decode cX1_speed 33 = .ok (.goto (-27), 3) := by decide +kernel
theorem dX1_speed_36 : decode cX1_speed 36 = .ok (.iload_n 2, 1) := by decide +kernel
theorem dX1_speed_37 : decode cX1_speed 37 = .ok (.iconst 1, 1) := by decide +kernel
theorem dX1_speed_38 : decode cX1_speed 38 = .ok (.if_icmp .ge 7, 3) := by decide +kernel
theorem dX1_speed_41 : decode cX1_speed 41 = .ok (.dconst 0, 1) := by decide +kernel
theorem dX1_speed_42 : decode cX1_speed 42 = .ok (.goto 12, 3) := by decide +kernel
theorem dX1_speed_45 : decode cX1_speed 45 = .ok (.ldc2_w 40, 3) := by decide +kernel
theorem dX1_speed_48 : decode cX1_speed 48 = .ok (.iload_n 1, 1) := by decide +kernel
theorem dX1_speed_49 : decode cX1_speed 49 = .ok (.i2d, 1) := by decide +kernel
theorem dX1_speed_50 : decode cX1_speed 50 = .ok (.dmul, 1) := by decide +kernel
theorem dX1_speed_51 : decode cX1_speed 51 = .ok (.iload_n 2, 1) := by decide +kernel
theorem dX1_speed_52 : decode cX1_speed 52 = .ok (.i2d, 1) := by decide +kernel
theorem dX1_speed_53 : decode cX1_speed 53 = .ok (.ddiv, 1) := by decide +kernel
theorem dX1_speed_54 : decode cX1_speed 54 = .ok (.dreturn, 1) := by decide +kernel
theorem dX1_copyFrom_0 : decode cX1_copyFrom 0 = .ok (.iconst 0, 1) := by decide +kernel
theorem dX1_copyFrom_1 : decode cX1_copyFrom 1 = .ok (.istore_n 2, 1) := by decide +kernel
theorem dX1_copyFrom_2 : decode cX1_copyFrom 2 = .ok (.iload_n 2, 1) := by decide +kernel
theorem dX1_copyFrom_3 : decode cX1_copyFrom 3 = .ok (.aload_n 0, 1) := by decide +kernel
theorem dX1_copyFrom_4 : decode cX1_copyFrom 4 = .ok (.getfield 11, 3) := by decide +kernel
theorem dX1_copyFrom_7 : decode cX1_copyFrom 7 = .ok (.arraylength, 1) := by decide +kernel
theorem dX1_copyFrom_8 : decode cX1_copyFrom 8 = .ok (.if_icmp .ge 30, 3) := by decide +kernel
theorem dX1_copyFrom_11 : decode cX1_copyFrom 11 = .ok (.iload_n 2, 1) := by decide +kernel
theorem dX1_copyFrom_12 : decode cX1_copyFrom 12 = .ok (.aload_n 1, 1) := by decide +kernel
theorem dX1_copyFrom_13 : decode cX1_copyFrom 13 = .ok (.getfield 11, 3) := by decide +kernel
theorem dX1_copyFrom_16 : decode cX1_copyFrom 16 = .ok (.arraylength, 1) := by decide +kernel
theorem dX1_copyFrom_17 : decode cX1_copyFrom 17 = .ok (.if_icmp .ge 21, 3) := by decide +kernel
theorem dX1_copyFrom_20 : decode cX1_copyFrom 20 = .ok (.aload_n 0, 1) := by decide +kernel
theorem dX1_copyFrom_21 : decode cX1_copyFrom 21 = .ok (.getfield 11, 3) := by decide +kernel
theorem dX1_copyFrom_24 : decode cX1_copyFrom 24 = .ok (.iload_n 2, 1) := by decide +kernel
theorem dX1_copyFrom_25 : decode cX1_copyFrom 25 = .ok (.aload_n 1, 1) := by decide +kernel
theorem dX1_copyFrom_26 : decode cX1_copyFrom 26 = .ok (.getfield 11, 3) := by decide +kernel
theorem dX1_copyFrom_29 : decode cX1_copyFrom 29 = .ok (.iload_n 2, 1) := by decide +kernel
theorem dX1_copyFrom_30 : decode cX1_copyFrom 30 = .ok (.iaload, 1) := by decide +kernel
theorem dX1_copyFrom_31 : decode cX1_copyFrom 31 = .ok (.iastore, 1) := by decide +kernel
theorem dX1_copyFrom_32 : decode cX1_copyFrom 32 = .ok (.iinc 2 1, 3) := by decide +kernel
theorem dX1_copyFrom_35 : decode cX1_copyFrom 35 = .ok (.goto (-33), 3) := by decide +kernel
theorem dX1_copyFrom_38 : decode cX1_copyFrom 38 = .ok (.aload_n 0, 1) := by decide +kernel
theorem dX1_copyFrom_39 : decode cX1_copyFrom 39 = .ok (.aload_n 1, 1) := by decide +kernel
theorem dX1_copyFrom_40 : decode cX1_copyFrom 40 = .ok (.getfield 19, 3) := by decide +kernel
theorem dX1_copyFrom_43 : decode cX1_copyFrom 43 = .ok (.putfield 19, 3) := by decide +kernel
theorem dX1_copyFrom_46 : decode cX1_copyFrom 46 = .ok (.aload_n 0, 1) := by decide +kernel
theorem dX1_copyFrom_47 : decode cX1_copyFrom 47 = .ok (.aload_n 1, 1) := by decide +kernel
theorem dX1_copyFrom_48 : decode cX1_copyFrom 48 = .ok (.getfield 15, 3) := by decide +kernel
theorem dX1_copyFrom_51 : decode cX1_copyFrom 51 = .ok (.putfield 15, 3) := by decide +kernel
theorem dX1_copyFrom_54 : decode cX1_copyFrom 54 = .ok (.return_, 1) := by decide +kernel
theorem dX1_read_0 : decode cX1_read 0 = .ok (.aload_n 0, 1) := by decide +kernel
theorem dX1_read_1 : decode cX1_read 1 = .ok (.iload_n 1, 1) := by decide +kernel
theorem dX1_read_2 : decode cX1_read 2 = .ok (.invokevirtual 22, 3) := by decide +kernel
theorem dX1_read_5 : decode cX1_read 5 = .ok (.iload_n 2, 1) := by decide +kernel
theorem dX1_read_6 : decode cX1_read 6 = .ok (.iadd, 1) := by decide +kernel
theorem dX1_read_7 : decode cX1_read 7 = .ok (.istore_n 3, 1) := by decide +kernel
theorem dX1_read_8 : decode cX1_read 8 = .ok (.iload_n 3, 1) := by decide +kernel
theorem dX1_read_9 : decode cX1_read 9 = .ok (.ifCond .lt 12, 3) := by decide +kernel
theorem dX1_read_12 : decode cX1_read 12 = .ok (.iload_n 3, 1) := by decide +kernel
theorem dX1_read_13 : decode cX1_read 13 = .ok (.aload_n 0, 1) := by decide +kernel
theorem dX1_read_14 : decode cX1_read 14 = .ok (.getfield 11, 3) := by decide +kernel
theorem dX1_read_17 : decode cX1_read 17 = .ok (.arraylength, 1) := by decide +kernel
theorem dX1_read_18 : decode cX1_read 18 = .ok (.if_icmp .lt 7, 3) := by decide +kernel
theorem dX1_read_21 : decode cX1_read 21 = .ok (.iconst 0, 1) := by decide +kernel
theorem dX1_read_22 : decode cX1_read 22 = .ok (.goto 9, 3) := by decide +kernel
theorem dX1_read_25 : decode cX1_read 25 = .ok (.aload_n 0, 1) := by decide +kernel
theorem dX1_read_26 : decode cX1_read 26 = .ok (.getfield 11, 3) := by decide +kernel
theorem dX1_read_29 : decode cX1_read 29 = .ok (.iload_n 3, 1) := by decide +kernel
theorem dX1_read_30 : decode cX1_read 30 = .ok (.iaload, 1) := by decide +kernel
theorem dX1_read_31 : decode cX1_read 31 = .ok (.ireturn, 1) := by decide +kernel
theorem dX1_write_0 : decode cX1_write 0 = .ok (.iload_n 1, 1) := by decide +kernel
theorem dX1_write_1 : decode cX1_write 1 = .ok (.ifCond .lt 19, 3) := by decide +kernel
theorem dX1_write_4 : decode cX1_write 4 = .ok (.iload_n 1, 1) := by decide +kernel
theorem dX1_write_5 : decode cX1_write 5 = .ok (.aload_n 0, 1) := by decide +kernel
theorem dX1_write_6 : decode cX1_write 6 = .ok (.getfield 11, 3) := by decide +kernel
theorem dX1_write_9 : decode cX1_write 9 = .ok (.arraylength, 1) := by decide +kernel
theorem dX1_write_10 : decode cX1_write 10 = .ok (.if_icmp .ge 10, 3) := by decide +kernel
theorem dX1_write_13 : decode cX1_write 13 = .ok (.aload_n 0, 1) := by decide +kernel
theorem dX1_write_14 : decode cX1_write 14 = .ok (.getfield 11, 3) := by decide +kernel
theorem dX1_write_17 : decode cX1_write 17 = .ok (.iload_n 1, 1) := by decide +kernel
theorem dX1_write_18 : decode cX1_write 18 = .ok (.iload_n 2, 1) := by decide +kernel
theorem dX1_write_19 : decode cX1_write 19 = .ok (.iastore, 1) := by decide +kernel
theorem dX1_write_20 : decode cX1_write 20 = .ok (.return_, 1) := by decide +kernel
theorem dX1_rowOf_0 : decode cX1_rowOf 0 = .ok (.aload_n 0, 1) := by decide +kernel
theorem dX1_rowOf_1 : decode cX1_rowOf 1 = .ok (.getfield 19, 3) := by decide +kernel
theorem dX1_rowOf_4 : decode cX1_rowOf 4 = .ok (.iload_n 1, 1) := by decide +kernel
theorem dX1_rowOf_5 : decode cX1_rowOf 5 = .ok (.iadd, 1) := by decide +kernel
theorem dX1_rowOf_6 : decode cX1_rowOf 6 = .ok (.bipush 16, 2) := by decide +kernel
theorem dX1_rowOf_8 : decode cX1_rowOf 8 = .ok (.irem, 1) := by decide +kernel
theorem dX1_rowOf_9 : decode cX1_rowOf 9 = .ok (.iconst 3, 1) := by decide +kernel
theorem dX1_rowOf_10 : decode cX1_rowOf 10 = .ok (.imul, 1) := by decide +kernel
theorem dX1_rowOf_11 : decode cX1_rowOf 11 = .ok (.ireturn, 1) := by decide +kernel
theorem dX2_init_0 : decode cX2_init 0 = .ok (.aload_n 0, 1) := by decide +kernel
theorem dX2_init_1 : decode cX2_init 1 = .ok (.invokespecial 3, 3) := by decide +kernel
theorem dX2_init_4 : decode cX2_init 4 = .ok (.aload_n 0, 1) := by decide +kernel
theorem dX2_init_5 : decode cX2_init 5 = .ok (.bipush 80, 2) := by decide +kernel
theorem dX2_init_7 : decode cX2_init 7 = .ok (.newarray .char, 2) := by decide +kernel
theorem dX2_init_9 : decode cX2_init 9 = .ok (.putfield 9, 3) := by decide +kernel
theorem dX2_init_12 : decode cX2_init 12 = .ok (.return_, 1) := by decide +kernel
theorem dX3_init_0 : decode cX3_init 0 = .ok (.aload_n 0, 1) := by decide +kernel
theorem dX3_init_1 : decode cX3_init 1 = .ok (.invokespecial 3, 3) := by decide +kernel
theorem dX3_init_4 : decode cX3_init 4 = .ok (.aload_n 0, 1) := by decide +kernel
theorem dX3_init_5 : decode cX3_init 5 = .ok (.new 9, 3) := by decide +kernel
theorem dX3_init_8 : decode cX3_init 8 = .ok (.dup, 1) := by decide +kernel
theorem dX3_init_9 : decode cX3_init 9 = .ok (.invokespecial 11, 3) := by decide +kernel
theorem dX3_init_12 : decode cX3_init 12 = .ok (.putfield 12, 3) := by decide +kernel
theorem dX3_init_15 : decode cX3_init 15 = .ok (.aload_n 0, 1) := by decide +kernel
theorem dX3_init_16 : decode cX3_init 16 = .ok (.new 9, 3) := by decide +kernel
theorem dX3_init_19 : decode cX3_init 19 = .ok (.dup, 1) := by decide +kernel
theorem dX3_init_20 : decode cX3_init 20 = .ok (.invokespecial 11, 3) := by decide +kernel
theorem dX3_init_23 : decode cX3_init 23 = .ok (.putfield 18, 3) := by decide +kernel
theorem dX3_init_26 : decode cX3_init 26 = .ok (.aload_n 0, 1) := by decide +kernel
theorem dX3_init_27 : decode cX3_init 27 = .ok (.new 9, 3) := by decide +kernel
theorem dX3_init_30 : decode cX3_init 30 = .ok (.dup, 1) := by decide +kernel
theorem dX3_init_31 : decode cX3_init 31 = .ok (.invokespecial 11, 3) := by decide +kernel
theorem dX3_init_34 : decode cX3_init 34 = .ok (.putfield 21, 3) := by decide +kernel
theorem dX3_init_37 : decode cX3_init 37 = .ok (.aload_n 0, 1) := by decide +kernel
theorem dX3_init_38 : decode cX3_init 38 = .ok (.new 9, 3) := by decide +kernel
theorem dX3_init_41 : decode cX3_init 41 = .ok (.dup, 1) := by decide +kernel
theorem dX3_init_42 : decode cX3_init 42 = .ok (.invokespecial 11, 3) := by decide +kernel
theorem dX3_init_45 : decode cX3_init 45 = .ok (.putfield 24, 3) := by decide +kernel
theorem dX3_init_48 : decode cX3_init 48 = .ok (.return_, 1) := by decide +kernel
theorem dX3_keep_0 : decode cX3_keep 0 = .ok (.aload_n 0, 1) := by decide +kernel
theorem dX3_keep_1 : decode cX3_keep 1 = .ok (.getfield 27, 3) := by decide +kernel
theorem dX3_keep_4 : decode cX3_keep 4 = .ok (.iconst 4, 1) := by decide +kernel
theorem dX3_keep_5 : decode cX3_keep 5 = .ok (.if_icmp .ge 16, 3) := by decide +kernel
theorem dX3_keep_8 : decode cX3_keep 8 = .ok (.aload_n 0, 1) := by decide +kernel
theorem dX3_keep_9 : decode cX3_keep 9 = .ok (.dup, 1) := by decide +kernel
theorem dX3_keep_10 : decode cX3_keep 10 = .ok (.getfield 27, 3) := by decide +kernel
theorem dX3_keep_13 : decode cX3_keep 13 = .ok (.iconst 1, 1) := by decide +kernel
theorem dX3_keep_14 : decode cX3_keep 14 = .ok (.iadd, 1) := by decide +kernel
theorem dX3_keep_15 : decode cX3_keep 15 = .ok (.putfield 27, 3) := by decide +kernel
theorem dX3_keep_18 : decode cX3_keep 18 = .ok (.goto 15, 3) := by decide +kernel
theorem dX3_keep_21 : decode cX3_keep 21 = .ok (.aload_n 0, 1) := by decide +kernel
theorem dX3_keep_22 : decode cX3_keep 22 = .ok (.aload_n 0, 1) := by decide +kernel
theorem dX3_keep_23 : decode cX3_keep 23 = .ok (.getfield 31, 3) := by decide +kernel
theorem dX3_keep_26 : decode cX3_keep 26 = .ok (.iconst 1, 1) := by decide +kernel
theorem dX3_keep_27 : decode cX3_keep 27 = .ok (.iadd, 1) := by decide +kernel
theorem dX3_keep_28 : decode cX3_keep 28 = .ok (.iconst 4, 1) := by decide +kernel
theorem dX3_keep_29 : decode cX3_keep 29 = .ok (.irem, 1) := by decide +kernel
theorem dX3_keep_30 : decode cX3_keep 30 = .ok (.putfield 31, 3) := by decide +kernel
theorem dX3_keep_33 : decode cX3_keep 33 = .ok (.aload_n 0, 1) := by decide +kernel
theorem dX3_keep_34 : decode cX3_keep 34 = .ok (.invokevirtual 34, 3) := by decide +kernel
theorem dX3_keep_37 : decode cX3_keep 37 = .ok (.aload_n 1, 1) := by decide +kernel
theorem dX3_keep_38 : decode cX3_keep 38 = .ok (.invokevirtual 38, 3) := by decide +kernel
theorem dX3_keep_41 : decode cX3_keep 41 = .ok (.return_, 1) := by decide +kernel
theorem dX3_latest_0 : decode cX3_latest 0 = .ok (.aload_n 0, 1) := by decide +kernel
theorem dX3_latest_1 : decode cX3_latest 1 = .ok (.getfield 31, 3) := by decide +kernel
theorem dX3_latest_4 : decode cX3_latest 4 = .ok (.aload_n 0, 1) := by decide +kernel
theorem dX3_latest_5 : decode cX3_latest 5 = .ok (.getfield 27, 3) := by decide +kernel
theorem dX3_latest_8 : decode cX3_latest 8 = .ok (.iadd, 1) := by decide +kernel
theorem dX3_latest_9 : decode cX3_latest 9 = .ok (.iconst 1, 1) := by decide +kernel
theorem dX3_latest_10 : decode cX3_latest 10 = .ok (.isub, 1) := by decide +kernel
theorem dX3_latest_11 : decode cX3_latest 11 = .ok (.iconst 4, 1) := by decide +kernel
theorem dX3_latest_12 : decode cX3_latest 12 = .ok (.irem, 1) := by decide +kernel
theorem dX3_latest_13 : decode cX3_latest 13 = .ok (.tableswitch 42 0 2 #[27, 32, 37], 27) := by decide +kernel
theorem dX3_latest_40 : decode cX3_latest 40 = .ok (.aload_n 0, 1) := by decide +kernel
theorem dX3_latest_41 : decode cX3_latest 41 = .ok (.getfield 12, 3) := by decide +kernel
theorem dX3_latest_44 : decode cX3_latest 44 = .ok (.areturn, 1) := by decide +kernel
theorem dX3_latest_45 : decode cX3_latest 45 = .ok (.aload_n 0, 1) := by decide +kernel
theorem dX3_latest_46 : decode cX3_latest 46 = .ok (.getfield 18, 3) := by decide +kernel
theorem dX3_latest_49 : decode cX3_latest 49 = .ok (.areturn, 1) := by decide +kernel
theorem dX3_latest_50 : decode cX3_latest 50 = .ok (.aload_n 0, 1) := by decide +kernel
theorem dX3_latest_51 : decode cX3_latest 51 = .ok (.getfield 21, 3) := by decide +kernel
theorem dX3_latest_54 : decode cX3_latest 54 = .ok (.areturn, 1) := by decide +kernel
theorem dX3_latest_55 : decode cX3_latest 55 = .ok (.aload_n 0, 1) := by decide +kernel
theorem dX3_latest_56 : decode cX3_latest 56 = .ok (.getfield 24, 3) := by decide +kernel
theorem dX3_latest_59 : decode cX3_latest 59 = .ok (.areturn, 1) := by decide +kernel
theorem dX4_init_0 : decode cX4_init 0 = .ok (.aload_n 0, 1) := by decide +kernel
theorem dX4_init_1 : decode cX4_init 1 = .ok (.invokespecial 3, 3) := by decide +kernel
theorem dX4_init_4 : decode cX4_init 4 = .ok (.aload_n 0, 1) := by decide +kernel
theorem dX4_init_5 : decode cX4_init 5 = .ok (.new 9, 3) := by decide +kernel
theorem dX4_init_8 : decode cX4_init 8 = .ok (.dup, 1) := by decide +kernel
theorem dX4_init_9 : decode cX4_init 9 = .ok (.invokespecial 11, 3) := by decide +kernel
theorem dX4_init_12 : decode cX4_init 12 = .ok (.putfield 12, 3) := by decide +kernel
theorem dX4_init_15 : decode cX4_init 15 = .ok (.return_, 1) := by decide +kernel
theorem dX4_ring_0 : decode cX4_ring 0 = .ok (.iload_n 0, 1) := by decide +kernel
theorem dX4_ring_1 : decode cX4_ring 1 = .ok (.iload_n 0, 1) := by decide +kernel
theorem dX4_ring_2 : decode cX4_ring 2 = .ok (.iconst 1, 1) := by decide +kernel
theorem dX4_ring_3 : decode cX4_ring 3 = .ok (.ishr, 1) := by decide +kernel
theorem dX4_ring_4 : decode cX4_ring 4 = .ok (.ixor, 1) := by decide +kernel
theorem dX4_ring_5 : decode cX4_ring 5 = .ok (.ireturn, 1) := by decide +kernel
theorem dX4_neighbour_0 : decode cX4_neighbour 0 = .ok (.aload_n 0, 1) := by decide +kernel
theorem dX4_neighbour_1 : decode cX4_neighbour 1 = .ok (.getfield 18, 3) := by decide +kernel
theorem dX4_neighbour_4 : decode cX4_neighbour 4 = .ok (.invokestatic 22, 3) := by decide +kernel
theorem dX4_neighbour_7 : decode cX4_neighbour 7 = .ok (.iload_n 1, 1) := by decide +kernel
theorem dX4_neighbour_8 : decode cX4_neighbour 8 = .ok (.iadd, 1) := by decide +kernel
theorem dX4_neighbour_9 : decode cX4_neighbour 9 = .ok (.iconst 3, 1) := by decide +kernel
theorem dX4_neighbour_10 : decode cX4_neighbour 10 = .ok (.iand, 1) := by decide +kernel
theorem dX4_neighbour_11 : decode cX4_neighbour 11 = .ok (.invokestatic 22, 3) := by decide +kernel
theorem dX4_neighbour_14 : decode cX4_neighbour 14 = .ok (.ireturn, 1) := by decide +kernel
theorem dX4_stepUnder_0 : decode cX4_stepUnder 0 = .ok (.aload_n 0, 1) := by decide +kernel
theorem dX4_stepUnder_1 : decode cX4_stepUnder 1 = .ok (.getfield 18, 3) := by decide +kernel
theorem dX4_stepUnder_4 : decode cX4_stepUnder 4 = .ok (.iload_n 2, 1) := by decide +kernel
theorem dX4_stepUnder_5 : decode cX4_stepUnder 5 = .ok (.ixor, 1) := by decide +kernel
theorem dX4_stepUnder_6 : decode cX4_stepUnder 6 = .ok (.iconst 3, 1) := by decide +kernel
theorem dX4_stepUnder_7 : decode cX4_stepUnder 7 = .ok (.if_icmp .ne 19, 3) := by decide +kernel
theorem dX4_stepUnder_10 : decode cX4_stepUnder 10 = .ok (.iload_n 1, 1) := by decide +kernel
theorem dX4_stepUnder_11 : decode cX4_stepUnder 11 = .ok (.iconst 1, 1) := by decide +kernel
theorem dX4_stepUnder_12 : decode cX4_stepUnder 12 = .ok (.if_icmp .ne 12, 3) := by decide +kernel
theorem dX4_stepUnder_15 : decode cX4_stepUnder 15 = .ok (.iconst 2, 1) := by decide +kernel
theorem dX4_stepUnder_16 : decode cX4_stepUnder 16 = .ok (.aload_n 0, 1) := by decide +kernel
theorem dX4_stepUnder_17 : decode cX4_stepUnder 17 = .ok (.getfield 26, 3) := by decide +kernel
theorem dX4_stepUnder_20 : decode cX4_stepUnder 20 = .ok (.imul, 1) := by decide +kernel
theorem dX4_stepUnder_21 : decode cX4_stepUnder 21 = .ok (.goto 4, 3) := by decide +kernel
theorem dX4_stepUnder_24 : decode cX4_stepUnder 24 = .ok (.iconst 0, 1) := by decide +kernel
theorem dX4_stepUnder_25 : decode cX4_stepUnder 25 = .ok (.ireturn, 1) := by decide +kernel
theorem dX4_stepUnder_26 : decode cX4_stepUnder 26 = .ok (.iload_n 2, 1) := by decide +kernel
theorem dX4_stepUnder_27 : decode cX4_stepUnder 27 = .ok (.aload_n 0, 1) := by decide +kernel
theorem dX4_stepUnder_28 : decode cX4_stepUnder 28 = .ok (.getfield 18, 3) := by decide +kernel
theorem dX4_stepUnder_31 : decode cX4_stepUnder 31 = .ok (.if_icmp .ne 5, 3) := by decide +kernel
theorem dX4_stepUnder_34 : decode cX4_stepUnder 34 = .ok (.iconst 0, 1) := by decide +kernel
theorem dX4_stepUnder_35 : decode cX4_stepUnder 35 = .ok (.ireturn, 1) := by decide +kernel
theorem dX4_stepUnder_36 : decode cX4_stepUnder 36 = .ok (.iload_n 2, 1) := by decide +kernel
theorem dX4_stepUnder_37 : decode cX4_stepUnder 37 = .ok (.aload_n 0, 1) := by decide +kernel
theorem dX4_stepUnder_38 : decode cX4_stepUnder 38 = .ok (.iconst 1, 1) := by decide +kernel
theorem dX4_stepUnder_39 : decode cX4_stepUnder 39 = .ok (.invokevirtual 29, 3) := by decide +kernel
theorem dX4_stepUnder_42 : decode cX4_stepUnder 42 = .ok (.if_icmp .ne 7, 3) := by decide +kernel
theorem dX4_stepUnder_45 : decode cX4_stepUnder 45 = .ok (.iconst 1, 1) := by decide +kernel
theorem dX4_stepUnder_46 : decode cX4_stepUnder 46 = .ok (.goto 4, 3) := by decide +kernel
theorem dX4_stepUnder_49 : decode cX4_stepUnder 49 = .ok (.iconst (-1), 1) := by decide +kernel
theorem dX4_stepUnder_50 : decode cX4_stepUnder 50 = .ok (.ireturn, 1) := by decide +kernel
theorem dX4_hasRoom_0 : decode cX4_hasRoom 0 = .ok (.aload_n 0, 1) := by decide +kernel
theorem dX4_hasRoom_1 : decode cX4_hasRoom 1 = .ok (.getfield 32, 3) := by decide +kernel
theorem dX4_hasRoom_4 : decode cX4_hasRoom 4 = .ok (.iload_n 1, 1) := by decide +kernel
theorem dX4_hasRoom_5 : decode cX4_hasRoom 5 = .ok (.iadd, 1) := by decide +kernel
theorem dX4_hasRoom_6 : decode cX4_hasRoom 6 = .ok (.ldc 35, 2) := by decide +kernel
theorem dX4_hasRoom_8 : decode cX4_hasRoom 8 = .ok (.if_icmp .gt 18, 3) := by decide +kernel
theorem dX4_hasRoom_11 : decode cX4_hasRoom 11 = .ok (.aload_n 0, 1) := by decide +kernel
theorem dX4_hasRoom_12 : decode cX4_hasRoom 12 = .ok (.getfield 36, 3) := by decide +kernel
theorem dX4_hasRoom_15 : decode cX4_hasRoom 15 = .ok (.iload_n 2, 1) := by decide +kernel
theorem dX4_hasRoom_16 : decode cX4_hasRoom 16 = .ok (.iadd, 1) := by decide +kernel
theorem dX4_hasRoom_17 : decode cX4_hasRoom 17 = .ok (.ldc 35, 2) := by decide +kernel
theorem dX4_hasRoom_19 : decode cX4_hasRoom 19 = .ok (.if_icmp .gt 7, 3) := by decide +kernel
theorem dX4_hasRoom_22 : decode cX4_hasRoom 22 = .ok (.iconst 1, 1) := by decide +kernel
theorem dX4_hasRoom_23 : decode cX4_hasRoom 23 = .ok (.goto 4, 3) := by decide +kernel
theorem dX4_hasRoom_26 : decode cX4_hasRoom 26 = .ok (.iconst 0, 1) := by decide +kernel
theorem dX4_hasRoom_27 : decode cX4_hasRoom 27 = .ok (.ireturn, 1) := by decide +kernel
theorem dX4_sense_0 : decode cX4_sense 0 = .ok (.aload_n 0, 1) := by decide +kernel
theorem dX4_sense_1 : decode cX4_sense 1 = .ok (.getfield 18, 3) := by decide +kernel
theorem dX4_sense_4 : decode cX4_sense 4 = .ok (.iload_n 1, 1) := by decide +kernel
theorem dX4_sense_5 : decode cX4_sense 5 = .ok (.ixor, 1) := by decide +kernel
theorem dX4_sense_6 : decode cX4_sense 6 = .ok (.iconst 3, 1) := by decide +kernel
theorem dX4_sense_7 : decode cX4_sense 7 = .ok (.if_icmp .ne 13, 3) := by decide +kernel
theorem dX4_sense_10 : decode cX4_sense 10 = .ok (.aload_n 0, 1) := by decide +kernel
theorem dX4_sense_11 : decode cX4_sense 11 = .ok (.dup, 1) := by decide +kernel
theorem dX4_sense_12 : decode cX4_sense 12 = .ok (.getfield 39, 3) := by decide +kernel
theorem dX4_sense_15 : decode cX4_sense 15 = .ok (.iconst 1, 1) := by decide +kernel
theorem dX4_sense_16 : decode cX4_sense 16 = .ok (.iadd, 1) := by decide +kernel
theorem dX4_sense_17 : decode cX4_sense 17 = .ok (.putfield 39, 3) := by decide +kernel
theorem dX4_sense_20 : decode cX4_sense 20 = .ok (.aload_n 0, 1) := by decide +kernel
theorem dX4_sense_21 : decode cX4_sense 21 = .ok (.getfield 12, 3) := by decide +kernel
theorem dX4_sense_24 : decode cX4_sense 24 = .ok (.iload_n 2, 1) := by decide +kernel
theorem dX4_sense_25 : decode cX4_sense 25 = .ok (.iload_n 3, 1) := by decide +kernel
theorem dX4_sense_26 : decode cX4_sense 26 = .ok (.aload_n 0, 1) := by decide +kernel
theorem dX4_sense_27 : decode cX4_sense 27 = .ok (.getfield 18, 3) := by decide +kernel
theorem dX4_sense_30 : decode cX4_sense 30 = .ok (.invokevirtual 42, 3) := by decide +kernel
theorem dX4_sense_33 : decode cX4_sense 33 = .ok (.aload_n 0, 1) := by decide +kernel
theorem dX4_sense_34 : decode cX4_sense 34 = .ok (.iload_n 1, 1) := by decide +kernel
theorem dX4_sense_35 : decode cX4_sense 35 = .ok (.iload_n 2, 1) := by decide +kernel
theorem dX4_sense_36 : decode cX4_sense 36 = .ok (.iload_n 3, 1) := by decide +kernel
theorem dX4_sense_37 : decode cX4_sense 37 = .ok (.invokevirtual 46, 3) := by decide +kernel
theorem dX4_sense_40 : decode cX4_sense 40 = .ok (.return_, 1) := by decide +kernel
theorem dX4_canRetrace_0 : decode cX4_canRetrace 0 = .ok (.aload_n 0, 1) := by decide +kernel
theorem dX4_canRetrace_1 : decode cX4_canRetrace 1 = .ok (.getfield 12, 3) := by decide +kernel
theorem dX4_canRetrace_4 : decode cX4_canRetrace 4 = .ok (.getfield 49, 3) := by decide +kernel
theorem dX4_canRetrace_7 : decode cX4_canRetrace 7 = .ok (.iload_n 1, 1) := by decide +kernel
theorem dX4_canRetrace_8 : decode cX4_canRetrace 8 = .ok (.if_icmp .ge 5, 3) := by decide +kernel
theorem dX4_canRetrace_11 : decode cX4_canRetrace 11 = .ok (.iconst 0, 1) := by decide +kernel
theorem dX4_canRetrace_12 : decode cX4_canRetrace 12 = .ok (.ireturn, 1) := by decide +kernel
theorem dX4_canRetrace_13 : decode cX4_canRetrace 13 = .ok (.iconst 0, 1) := by decide +kernel
theorem dX4_canRetrace_14 : decode cX4_canRetrace 14 = .ok (.istore_n 2, 1) := by decide +kernel
theorem dX4_canRetrace_15 : decode cX4_canRetrace 15 = .ok (.iconst 0, 1) := by decide +kernel
theorem dX4_canRetrace_16 : decode cX4_canRetrace 16 = .ok (.istore_n 3, 1) := by decide +kernel
theorem dX4_canRetrace_17 : decode cX4_canRetrace 17 = .ok (.aload_n 0, 1) := by decide +kernel
theorem dX4_canRetrace_18 : decode cX4_canRetrace 18 = .ok (.getfield 12, 3) := by decide +kernel
theorem dX4_canRetrace_21 : decode cX4_canRetrace 21 = .ok (.getfield 49, 3) := by decide +kernel
theorem dX4_canRetrace_24 : decode cX4_canRetrace 24 = .ok (.iload_n 1, 1) := by decide +kernel
theorem dX4_canRetrace_25 : decode cX4_canRetrace 25 = .ok (.isub, 1) := by decide +kernel
theorem dX4_canRetrace_26 : decode cX4_canRetrace 26 = .ok (.istore 4, 2) := by decide +kernel
theorem dX4_canRetrace_28 : decode cX4_canRetrace 28 = .ok (.iload 4, 2) := by decide +kernel
theorem dX4_canRetrace_30 : decode cX4_canRetrace 30 = .ok (.aload_n 0, 1) := by decide +kernel
theorem dX4_canRetrace_31 : decode cX4_canRetrace 31 = .ok (.getfield 12, 3) := by decide +kernel
theorem dX4_canRetrace_34 : decode cX4_canRetrace 34 = .ok (.getfield 49, 3) := by decide +kernel
theorem dX4_canRetrace_37 : decode cX4_canRetrace 37 = .ok (.if_icmp .ge 36, 3) := by decide +kernel
theorem dX4_canRetrace_40 : decode cX4_canRetrace 40 = .ok (.iload_n 2, 1) := by decide +kernel
theorem dX4_canRetrace_41 : decode cX4_canRetrace 41 = .ok (.aload_n 0, 1) := by decide +kernel
theorem dX4_canRetrace_42 : decode cX4_canRetrace 42 = .ok (.getfield 12, 3) := by decide +kernel
theorem dX4_canRetrace_45 : decode cX4_canRetrace 45 = .ok (.iload 4, 2) := by decide +kernel
theorem dX4_canRetrace_47 : decode cX4_canRetrace 47 = .ok (.invokevirtual 52, 3) := by decide +kernel
theorem dX4_canRetrace_50 : decode cX4_canRetrace 50 = .ok (.iadd, 1) := by decide +kernel
theorem dX4_canRetrace_51 : decode cX4_canRetrace 51 = .ok (.istore_n 2, 1) := by decide +kernel
theorem dX4_canRetrace_52 : decode cX4_canRetrace 52 = .ok (.iload_n 3, 1) := by decide +kernel
theorem dX4_canRetrace_53 : decode cX4_canRetrace 53 = .ok (.aload_n 0, 1) := by decide +kernel
theorem dX4_canRetrace_54 : decode cX4_canRetrace 54 = .ok (.getfield 12, 3) := by decide +kernel
theorem dX4_canRetrace_57 : decode cX4_canRetrace 57 = .ok (.iload 4, 2) := by decide +kernel
theorem dX4_canRetrace_59 : decode cX4_canRetrace 59 = .ok (.invokevirtual 55, 3) := by decide +kernel
theorem dX4_canRetrace_62 : decode cX4_canRetrace 62 = .ok (.invokestatic 58, 3) := by decide +kernel
theorem dX4_canRetrace_65 : decode cX4_canRetrace 65 = .ok (.iadd, 1) := by decide +kernel
theorem dX4_canRetrace_66 : decode cX4_canRetrace 66 = .ok (.istore_n 3, 1) := by decide +kernel
theorem dX4_canRetrace_67 : decode cX4_canRetrace 67 = .ok (.iinc 4 1, 3) := by decide +kernel
theorem dX4_canRetrace_70 : decode cX4_canRetrace 70 = .ok (.goto (-42), 3) := by decide +kernel
theorem dX4_canRetrace_73 : decode cX4_canRetrace 73 = .ok (.aload_n 0, 1) := by decide +kernel
theorem dX4_canRetrace_74 : decode cX4_canRetrace 74 = .ok (.iload_n 2, 1) := by decide +kernel
theorem dX4_canRetrace_75 : decode cX4_canRetrace 75 = .ok (.iload_n 3, 1) := by decide +kernel
theorem dX4_canRetrace_76 : decode cX4_canRetrace 76 = .ok (.invokevirtual 63, 3) := by decide +kernel
theorem dX4_canRetrace_79 : decode cX4_canRetrace 79 = .ok (.ireturn, 1) := by decide +kernel
theorem dX4_retrace_0 : decode cX4_retrace 0 = .ok (.iconst 0, 1) := by decide +kernel
theorem dX4_retrace_1 : decode cX4_retrace 1 = .ok (.istore_n 2, 1) := by decide +kernel
theorem dX4_retrace_2 : decode cX4_retrace 2 = .ok (.iload_n 2, 1) := by decide +kernel
theorem dX4_retrace_3 : decode cX4_retrace 3 = .ok (.iload_n 1, 1) := by decide +kernel
theorem dX4_retrace_4 : decode cX4_retrace 4 = .ok (.if_icmp .ge 55, 3) := by decide +kernel
theorem dX4_retrace_7 : decode cX4_retrace 7 = .ok (.aload_n 0, 1) := by decide +kernel
theorem dX4_retrace_8 : decode cX4_retrace 8 = .ok (.getfield 12, 3) := by decide +kernel
theorem dX4_retrace_11 : decode cX4_retrace 11 = .ok (.getfield 49, 3) := by decide +kernel
theorem dX4_retrace_14 : decode cX4_retrace 14 = .ok (.iconst 1, 1) := by decide +kernel
theorem dX4_retrace_15 : decode cX4_retrace 15 = .ok (.isub, 1) := by decide +kernel
theorem dX4_retrace_16 : decode cX4_retrace 16 = .ok (.istore_n 3, 1) := by decide +kernel
theorem dX4_retrace_17 : decode cX4_retrace 17 = .ok (.aload_n 0, 1) := by decide +kernel
theorem dX4_retrace_18 : decode cX4_retrace 18 = .ok (.aload_n 0, 1) := by decide +kernel
theorem dX4_retrace_19 : decode cX4_retrace 19 = .ok (.getfield 12, 3) := by decide +kernel
theorem dX4_retrace_22 : decode cX4_retrace 22 = .ok (.iload_n 3, 1) := by decide +kernel
theorem dX4_retrace_23 : decode cX4_retrace 23 = .ok (.invokevirtual 67, 3) := by decide +kernel
theorem dX4_retrace_26 : decode cX4_retrace 26 = .ok (.aload_n 0, 1) := by decide +kernel
theorem dX4_retrace_27 : decode cX4_retrace 27 = .ok (.getfield 12, 3) := by decide +kernel
theorem dX4_retrace_30 : decode cX4_retrace 30 = .ok (.iload_n 3, 1) := by decide +kernel
theorem dX4_retrace_31 : decode cX4_retrace 31 = .ok (.invokevirtual 55, 3) := by decide +kernel
theorem dX4_retrace_34 : decode cX4_retrace 34 = .ok (.ineg, 1) := by decide +kernel
theorem dX4_retrace_35 : decode cX4_retrace 35 = .ok (.aload_n 0, 1) := by decide +kernel
theorem dX4_retrace_36 : decode cX4_retrace 36 = .ok (.getfield 12, 3) := by decide +kernel
theorem dX4_retrace_39 : decode cX4_retrace 39 = .ok (.iload_n 3, 1) := by decide +kernel
theorem dX4_retrace_40 : decode cX4_retrace 40 = .ok (.invokevirtual 52, 3) := by decide +kernel
theorem dX4_retrace_43 : decode cX4_retrace 43 = .ok (.invokevirtual 46, 3) := by decide +kernel
theorem dX4_retrace_46 : decode cX4_retrace 46 = .ok (.aload_n 0, 1) := by decide +kernel
theorem dX4_retrace_47 : decode cX4_retrace 47 = .ok (.getfield 12, 3) := by decide +kernel
theorem dX4_retrace_50 : decode cX4_retrace 50 = .ok (.invokevirtual 70, 3) := by decide +kernel
theorem dX4_retrace_53 : decode cX4_retrace 53 = .ok (.iinc 2 1, 3) := by decide +kernel
theorem dX4_retrace_56 : decode cX4_retrace 56 = .ok (.goto (-54), 3) := by decide +kernel
theorem dX4_retrace_59 : decode cX4_retrace 59 = .ok (.return_, 1) := by decide +kernel
theorem dX4_move_0 : decode cX4_move 0 = .ok (.aload_n 0, 1) := by decide +kernel
theorem dX4_move_1 : decode cX4_move 1 = .ok (.aload_n 0, 1) := by decide +kernel
theorem dX4_move_2 : decode cX4_move 2 = .ok (.getfield 18, 3) := by decide +kernel
theorem dX4_move_5 : decode cX4_move 5 = .ok (.iload_n 1, 1) := by decide +kernel
theorem dX4_move_6 : decode cX4_move 6 = .ok (.ixor, 1) := by decide +kernel
theorem dX4_move_7 : decode cX4_move 7 = .ok (.iload_n 2, 1) := by decide +kernel
theorem dX4_move_8 : decode cX4_move 8 = .ok (.invokevirtual 73, 3) := by decide +kernel
theorem dX4_move_11 : decode cX4_move 11 = .ok (.aload_n 0, 1) := by decide +kernel
theorem dX4_move_12 : decode cX4_move 12 = .ok (.iload_n 1, 1) := by decide +kernel
theorem dX4_move_13 : decode cX4_move 13 = .ok (.putfield 18, 3) := by decide +kernel
theorem dX4_move_16 : decode cX4_move 16 = .ok (.aload_n 0, 1) := by decide +kernel
theorem dX4_move_17 : decode cX4_move 17 = .ok (.dup, 1) := by decide +kernel
theorem dX4_move_18 : decode cX4_move 18 = .ok (.getfield 77, 3) := by decide +kernel
theorem dX4_move_21 : decode cX4_move 21 = .ok (.iload_n 2, 1) := by decide +kernel
theorem dX4_move_22 : decode cX4_move 22 = .ok (.iadd, 1) := by decide +kernel
theorem dX4_move_23 : decode cX4_move 23 = .ok (.putfield 77, 3) := by decide +kernel
theorem dX4_move_26 : decode cX4_move 26 = .ok (.aload_n 0, 1) := by decide +kernel
theorem dX4_move_27 : decode cX4_move 27 = .ok (.dup, 1) := by decide +kernel
theorem dX4_move_28 : decode cX4_move 28 = .ok (.getfield 36, 3) := by decide +kernel
theorem dX4_move_31 : decode cX4_move 31 = .ok (.iload_n 2, 1) := by decide +kernel
theorem dX4_move_32 : decode cX4_move 32 = .ok (.invokestatic 58, 3) := by decide +kernel
theorem dX4_move_35 : decode cX4_move 35 = .ok (.iadd, 1) := by decide +kernel
theorem dX4_move_36 : decode cX4_move 36 = .ok (.putfield 36, 3) := by decide +kernel
theorem dX4_move_39 : decode cX4_move 39 = .ok (.aload_n 0, 1) := by decide +kernel
theorem dX4_move_40 : decode cX4_move 40 = .ok (.dup, 1) := by decide +kernel
theorem dX4_move_41 : decode cX4_move 41 = .ok (.getfield 32, 3) := by decide +kernel
theorem dX4_move_44 : decode cX4_move 44 = .ok (.iload_n 3, 1) := by decide +kernel
theorem dX4_move_45 : decode cX4_move 45 = .ok (.iadd, 1) := by decide +kernel
theorem dX4_move_46 : decode cX4_move 46 = .ok (.putfield 32, 3) := by decide +kernel
theorem dX4_move_49 : decode cX4_move 49 = .ok (.iload_n 2, 1) := by decide +kernel
theorem dX4_move_50 : decode cX4_move 50 = .ok (.ifCond .eq 16, 3) := by decide +kernel
theorem dX4_move_53 : decode cX4_move 53 = .ok (.aload_n 0, 1) := by decide +kernel
theorem dX4_move_54 : decode cX4_move 54 = .ok (.iload_n 2, 1) := by decide +kernel
theorem dX4_move_55 : decode cX4_move 55 = .ok (.ifCond .le 7, 3) := by decide +kernel
theorem dX4_move_58 : decode cX4_move 58 = .ok (.iconst 1, 1) := by decide +kernel
theorem dX4_move_59 : decode cX4_move 59 = .ok (.goto 4, 3) := by decide +kernel
theorem dX4_move_62 : decode cX4_move 62 = .ok (.iconst (-1), 1) := by decide +kernel
theorem dX4_move_63 : decode cX4_move 63 = .ok (.putfield 26, 3) := by decide +kernel
theorem dX4_move_66 : decode cX4_move 66 = .ok (.return_, 1) := by decide +kernel
theorem dX4_book_0 : decode cX4_book 0 = .ok (.iload_n 1, 1) := by decide +kernel
theorem dX4_book_1 : decode cX4_book 1 = .ok (.tableswitch 66 1 3 #[40, 27, 53], 27) := by decide +kernel
theorem dX4_book_28 : decode cX4_book 28 = .ok (.aload_n 0, 1) := by decide +kernel
theorem dX4_book_29 : decode cX4_book 29 = .ok (.dup, 1) := by decide +kernel
theorem dX4_book_30 : decode cX4_book 30 = .ok (.getfield 80, 3) := by decide +kernel
theorem dX4_book_33 : decode cX4_book 33 = .ok (.iload_n 2, 1) := by decide +kernel
theorem dX4_book_34 : decode cX4_book 34 = .ok (.iadd, 1) := by decide +kernel
theorem dX4_book_35 : decode cX4_book 35 = .ok (.putfield 80, 3) := by decide +kernel
theorem dX4_book_38 : decode cX4_book 38 = .ok (.goto 29, 3) := by decide +kernel
theorem dX4_book_41 : decode cX4_book 41 = .ok (.aload_n 0, 1) := by decide +kernel
theorem dX4_book_42 : decode cX4_book 42 = .ok (.dup, 1) := by decide +kernel
theorem dX4_book_43 : decode cX4_book 43 = .ok (.getfield 83, 3) := by decide +kernel
theorem dX4_book_46 : decode cX4_book 46 = .ok (.iload_n 2, 1) := by decide +kernel
theorem dX4_book_47 : decode cX4_book 47 = .ok (.iadd, 1) := by decide +kernel
theorem dX4_book_48 : decode cX4_book 48 = .ok (.putfield 83, 3) := by decide +kernel
theorem dX4_book_51 : decode cX4_book 51 = .ok (.goto 16, 3) := by decide +kernel
theorem dX4_book_54 : decode cX4_book 54 = .ok (.aload_n 0, 1) := by decide +kernel
theorem dX4_book_55 : decode cX4_book 55 = .ok (.dup, 1) := by decide +kernel
theorem dX4_book_56 : decode cX4_book 56 = .ok (.getfield 86, 3) := by decide +kernel
theorem dX4_book_59 : decode cX4_book 59 = .ok (.iload_n 2, 1) := by decide +kernel
theorem dX4_book_60 : decode cX4_book 60 = .ok (.iadd, 1) := by decide +kernel
theorem dX4_book_61 : decode cX4_book 61 = .ok (.putfield 86, 3) := by decide +kernel
theorem dX4_book_64 : decode cX4_book 64 = .ok (.goto 3, 3) := by decide +kernel
theorem dX4_book_67 : decode cX4_book 67 = .ok (.return_, 1) := by decide +kernel
theorem dX4_turnsOver_0 : decode cX4_turnsOver 0 = .ok (.iload_n 1, 1) := by decide +kernel
theorem dX4_turnsOver_1 : decode cX4_turnsOver 1 = .ok (.iconst 1, 1) := by decide +kernel
theorem dX4_turnsOver_2 : decode cX4_turnsOver 2 = .ok (.if_icmp .ge 7, 3) := by decide +kernel
theorem dX4_turnsOver_5 : decode cX4_turnsOver 5 = .ok (.iconst 0, 1) := by decide +kernel
theorem dX4_turnsOver_6 : decode cX4_turnsOver 6 = .ok (.goto 11, 3) := by decide +kernel
theorem dX4_turnsOver_9 : decode cX4_turnsOver 9 = .ok (.aload_n 0, 1) := by decide +kernel
theorem dX4_turnsOver_10 : decode cX4_turnsOver 10 = .ok (.getfield 77, 3) := by decide +kernel
theorem dX4_turnsOver_13 : decode cX4_turnsOver 13 = .ok (.iload_n 1, 1) := by decide +kernel
theorem dX4_turnsOver_14 : decode cX4_turnsOver 14 = .ok (.invokestatic 89, 3) := by decide +kernel
theorem dX4_turnsOver_17 : decode cX4_turnsOver 17 = .ok (.ireturn, 1) := by decide +kernel
theorem dX4_placeIn_0 : decode cX4_placeIn 0 = .ok (.iload_n 1, 1) := by decide +kernel
theorem dX4_placeIn_1 : decode cX4_placeIn 1 = .ok (.iconst 1, 1) := by decide +kernel
theorem dX4_placeIn_2 : decode cX4_placeIn 2 = .ok (.if_icmp .ge 7, 3) := by decide +kernel
theorem dX4_placeIn_5 : decode cX4_placeIn 5 = .ok (.iconst 0, 1) := by decide +kernel
theorem dX4_placeIn_6 : decode cX4_placeIn 6 = .ok (.goto 11, 3) := by decide +kernel
theorem dX4_placeIn_9 : decode cX4_placeIn 9 = .ok (.aload_n 0, 1) := by decide +kernel
theorem dX4_placeIn_10 : decode cX4_placeIn 10 = .ok (.getfield 77, 3) := by decide +kernel
theorem dX4_placeIn_13 : decode cX4_placeIn 13 = .ok (.iload_n 1, 1) := by decide +kernel
theorem dX4_placeIn_14 : decode cX4_placeIn 14 = .ok (.invokestatic 93, 3) := by decide +kernel
theorem dX4_placeIn_17 : decode cX4_placeIn 17 = .ok (.ireturn, 1) := by decide +kernel
theorem dX4_passMark_0 : decode cX4_passMark 0 = .ok (.aload_n 0, 1) := by decide +kernel
theorem dX4_passMark_1 : decode cX4_passMark 1 = .ok (.iload_n 1, 1) := by decide +kernel
theorem dX4_passMark_2 : decode cX4_passMark 2 = .ok (.invokevirtual 96, 3) := by decide +kernel
theorem dX4_passMark_5 : decode cX4_passMark 5 = .ok (.istore_n 2, 1) := by decide +kernel
theorem dX4_passMark_6 : decode cX4_passMark 6 = .ok (.iconst 2, 1) := by decide +kernel
theorem dX4_passMark_7 : decode cX4_passMark 7 = .ok (.iload_n 2, 1) := by decide +kernel
theorem dX4_passMark_8 : decode cX4_passMark 8 = .ok (.imul, 1) := by decide +kernel
theorem dX4_passMark_9 : decode cX4_passMark 9 = .ok (.iload_n 1, 1) := by decide +kernel
theorem dX4_passMark_10 : decode cX4_passMark 10 = .ok (.if_icmp .gt 7, 3) := by decide +kernel
theorem dX4_passMark_13 : decode cX4_passMark 13 = .ok (.iload_n 2, 1) := by decide +kernel
theorem dX4_passMark_14 : decode cX4_passMark 14 = .ok (.goto 6, 3) := by decide +kernel
end
section
theorem dX4_passMark_17 : decode cX4_passMark 17 = .ok (.iload_n 2, 1) := by decide +kernel
theorem dX4_passMark_18 : decode cX4_passMark 18 = .ok (.iload_n 1, 1) := by decide +kernel
theorem dX4_passMark_19 : decode cX4_passMark 19 = .ok (.isub, 1) := by decide +kernel
theorem dX4_passMark_20 : decode cX4_passMark 20 = .ok (.istore_n 3, 1) := by decide +kernel
theorem dX4_passMark_21 : decode cX4_passMark 21 = .ok (.aload_n 0, 1) := by decide +kernel
theorem dX4_passMark_22 : decode cX4_passMark 22 = .ok (.dup, 1) := by decide +kernel
theorem dX4_passMark_23 : decode cX4_passMark 23 = .ok (.getfield 77, 3) := by decide +kernel
theorem dX4_passMark_26 : decode cX4_passMark 26 = .ok (.iload_n 3, 1) := by decide +kernel
theorem dX4_passMark_27 : decode cX4_passMark 27 = .ok (.isub, 1) := by decide +kernel
theorem dX4_passMark_28 : decode cX4_passMark 28 = .ok (.putfield 77, 3) := by decide +kernel
theorem dX4_passMark_31 : decode cX4_passMark 31 = .ok (.aload_n 0, 1) := by decide +kernel
theorem dX4_passMark_32 : decode cX4_passMark 32 = .ok (.dup, 1) := by decide +kernel
theorem dX4_passMark_33 : decode cX4_passMark 33 = .ok (.getfield 99, 3) := by decide +kernel
theorem dX4_passMark_36 : decode cX4_passMark 36 = .ok (.iload_n 3, 1) := by decide +kernel
theorem dX4_passMark_37 : decode cX4_passMark 37 = .ok (.iadd, 1) := by decide +kernel
theorem dX4_passMark_38 : decode cX4_passMark 38 = .ok (.putfield 99, 3) := by decide +kernel
theorem dX4_passMark_41 : decode cX4_passMark 41 = .ok (.aload_n 0, 1) := by decide +kernel
theorem dX4_passMark_42 : decode cX4_passMark 42 = .ok (.dup, 1) := by decide +kernel
theorem dX4_passMark_43 : decode cX4_passMark 43 = .ok (.getfield 102, 3) := by decide +kernel
theorem dX4_passMark_46 : decode cX4_passMark 46 = .ok (.iload_n 3, 1) := by decide +kernel
theorem dX4_passMark_47 : decode cX4_passMark 47 = .ok (.invokestatic 58, 3) := by decide +kernel
theorem dX4_passMark_50 : decode cX4_passMark 50 = .ok (.iadd, 1) := by decide +kernel
theorem dX4_passMark_51 : decode cX4_passMark 51 = .ok (.putfield 102, 3) := by decide +kernel
theorem dX4_passMark_54 : decode cX4_passMark 54 = .ok (.iload_n 3, 1) := by decide +kernel
theorem dX4_passMark_55 : decode cX4_passMark 55 = .ok (.ireturn, 1) := by decide +kernel
theorem dX4_copyFrom_0 : decode cX4_copyFrom 0 = .ok (.aload_n 0, 1) := by decide +kernel
theorem dX4_copyFrom_1 : decode cX4_copyFrom 1 = .ok (.getfield 12, 3) := by decide +kernel
theorem dX4_copyFrom_4 : decode cX4_copyFrom 4 = .ok (.aload_n 1, 1) := by decide +kernel
theorem dX4_copyFrom_5 : decode cX4_copyFrom 5 = .ok (.getfield 12, 3) := by decide +kernel
theorem dX4_copyFrom_8 : decode cX4_copyFrom 8 = .ok (.invokevirtual 105, 3) := by decide +kernel
theorem dX4_copyFrom_11 : decode cX4_copyFrom 11 = .ok (.aload_n 0, 1) := by decide +kernel
theorem dX4_copyFrom_12 : decode cX4_copyFrom 12 = .ok (.aload_n 1, 1) := by decide +kernel
theorem dX4_copyFrom_13 : decode cX4_copyFrom 13 = .ok (.getfield 18, 3) := by decide +kernel
theorem dX4_copyFrom_16 : decode cX4_copyFrom 16 = .ok (.putfield 18, 3) := by decide +kernel
theorem dX4_copyFrom_19 : decode cX4_copyFrom 19 = .ok (.aload_n 0, 1) := by decide +kernel
theorem dX4_copyFrom_20 : decode cX4_copyFrom 20 = .ok (.aload_n 1, 1) := by decide +kernel
theorem dX4_copyFrom_21 : decode cX4_copyFrom 21 = .ok (.getfield 77, 3) := by decide +kernel
theorem dX4_copyFrom_24 : decode cX4_copyFrom 24 = .ok (.putfield 77, 3) := by decide +kernel
theorem dX4_copyFrom_27 : decode cX4_copyFrom 27 = .ok (.aload_n 0, 1) := by decide +kernel
theorem dX4_copyFrom_28 : decode cX4_copyFrom 28 = .ok (.aload_n 1, 1) := by decide +kernel
theorem dX4_copyFrom_29 : decode cX4_copyFrom 29 = .ok (.getfield 26, 3) := by decide +kernel
theorem dX4_copyFrom_32 : decode cX4_copyFrom 32 = .ok (.putfield 26, 3) := by decide +kernel
theorem dX4_copyFrom_35 : decode cX4_copyFrom 35 = .ok (.aload_n 0, 1) := by decide +kernel
theorem dX4_copyFrom_36 : decode cX4_copyFrom 36 = .ok (.aload_n 1, 1) := by decide +kernel
theorem dX4_copyFrom_37 : decode cX4_copyFrom 37 = .ok (.getfield 80, 3) := by decide +kernel
theorem dX4_copyFrom_40 : decode cX4_copyFrom 40 = .ok (.putfield 80, 3) := by decide +kernel
theorem dX4_copyFrom_43 : decode cX4_copyFrom 43 = .ok (.aload_n 0, 1) := by decide +kernel
theorem dX4_copyFrom_44 : decode cX4_copyFrom 44 = .ok (.aload_n 1, 1) := by decide +kernel
theorem dX4_copyFrom_45 : decode cX4_copyFrom 45 = .ok (.getfield 83, 3) := by decide +kernel
theorem dX4_copyFrom_48 : decode cX4_copyFrom 48 = .ok (.putfield 83, 3) := by decide +kernel
theorem dX4_copyFrom_51 : decode cX4_copyFrom 51 = .ok (.aload_n 0, 1) := by decide +kernel
theorem dX4_copyFrom_52 : decode cX4_copyFrom 52 = .ok (.aload_n 1, 1) := by decide +kernel
theorem dX4_copyFrom_53 : decode cX4_copyFrom 53 = .ok (.getfield 86, 3) := by decide +kernel
theorem dX4_copyFrom_56 : decode cX4_copyFrom 56 = .ok (.putfield 86, 3) := by decide +kernel
theorem dX4_copyFrom_59 : decode cX4_copyFrom 59 = .ok (.aload_n 0, 1) := by decide +kernel
theorem dX4_copyFrom_60 : decode cX4_copyFrom 60 = .ok (.aload_n 1, 1) := by decide +kernel
theorem dX4_copyFrom_61 : decode cX4_copyFrom 61 = .ok (.getfield 99, 3) := by decide +kernel
theorem dX4_copyFrom_64 : decode cX4_copyFrom 64 = .ok (.putfield 99, 3) := by decide +kernel
theorem dX4_copyFrom_67 : decode cX4_copyFrom 67 = .ok (.aload_n 0, 1) := by decide +kernel
theorem dX4_copyFrom_68 : decode cX4_copyFrom 68 = .ok (.aload_n 1, 1) := by decide +kernel
theorem dX4_copyFrom_69 : decode cX4_copyFrom 69 = .ok (.getfield 39, 3) := by decide +kernel
theorem dX4_copyFrom_72 : decode cX4_copyFrom 72 = .ok (.putfield 39, 3) := by decide +kernel
theorem dX4_copyFrom_75 : decode cX4_copyFrom 75 = .ok (.aload_n 0, 1) := by decide +kernel
theorem dX4_copyFrom_76 : decode cX4_copyFrom 76 = .ok (.aload_n 1, 1) := by decide +kernel
theorem dX4_copyFrom_77 : decode cX4_copyFrom 77 = .ok (.getfield 102, 3) := by decide +kernel
theorem dX4_copyFrom_80 : decode cX4_copyFrom 80 = .ok (.putfield 102, 3) := by decide +kernel
theorem dX4_copyFrom_83 : decode cX4_copyFrom 83 = .ok (.aload_n 0, 1) := by decide +kernel
theorem dX4_copyFrom_84 : decode cX4_copyFrom 84 = .ok (.aload_n 1, 1) := by decide +kernel
theorem dX4_copyFrom_85 : decode cX4_copyFrom 85 = .ok (.getfield 36, 3) := by decide +kernel
theorem dX4_copyFrom_88 : decode cX4_copyFrom 88 = .ok (.putfield 36, 3) := by decide +kernel
theorem dX4_copyFrom_91 : decode cX4_copyFrom 91 = .ok (.aload_n 0, 1) := by decide +kernel
theorem dX4_copyFrom_92 : decode cX4_copyFrom 92 = .ok (.aload_n 1, 1) := by decide +kernel
theorem dX4_copyFrom_93 : decode cX4_copyFrom 93 = .ok (.getfield 32, 3) := by decide +kernel
theorem dX4_copyFrom_96 : decode cX4_copyFrom 96 = .ok (.putfield 32, 3) := by decide +kernel
theorem dX4_copyFrom_99 : decode cX4_copyFrom 99 = .ok (.return_, 1) := by decide +kernel
theorem dX5_init_0 : decode cX5_init 0 = .ok (.aload_n 0, 1) := by decide +kernel
theorem dX5_init_1 : decode cX5_init 1 = .ok (.invokespecial 1, 3) := by decide +kernel
theorem dX5_init_4 : decode cX5_init 4 = .ok (.aload_n 0, 1) := by decide +kernel
theorem dX5_init_5 : decode cX5_init 5 = .ok (.new 7, 3) := by decide +kernel
theorem dX5_init_8 : decode cX5_init 8 = .ok (.dup, 1) := by decide +kernel
theorem dX5_init_9 : decode cX5_init 9 = .ok (.invokespecial 9, 3) := by decide +kernel
theorem dX5_init_12 : decode cX5_init 12 = .ok (.putfield 10, 3) := by decide +kernel
theorem dX5_init_15 : decode cX5_init 15 = .ok (.aload_n 0, 1) := by decide +kernel
theorem dX5_init_16 : decode cX5_init 16 = .ok (.new 7, 3) := by decide +kernel
theorem dX5_init_19 : decode cX5_init 19 = .ok (.dup, 1) := by decide +kernel
theorem dX5_init_20 : decode cX5_init 20 = .ok (.invokespecial 9, 3) := by decide +kernel
theorem dX5_init_23 : decode cX5_init 23 = .ok (.putfield 16, 3) := by decide +kernel
theorem dX5_init_26 : decode cX5_init 26 = .ok (.aload_n 0, 1) := by decide +kernel
theorem dX5_init_27 : decode cX5_init 27 = .ok (.new 7, 3) := by decide +kernel
theorem dX5_init_30 : decode cX5_init 30 = .ok (.dup, 1) := by decide +kernel
theorem dX5_init_31 : decode cX5_init 31 = .ok (.invokespecial 9, 3) := by decide +kernel
theorem dX5_init_34 : decode cX5_init 34 = .ok (.putfield 19, 3) := by decide +kernel
theorem dX5_init_37 : decode cX5_init 37 = .ok (.aload_n 0, 1) := by decide +kernel
theorem dX5_init_38 : decode cX5_init 38 = .ok (.new 22, 3) := by decide +kernel
theorem dX5_init_41 : decode cX5_init 41 = .ok (.dup, 1) := by decide +kernel
theorem dX5_init_42 : decode cX5_init 42 = .ok (.invokespecial 24, 3) := by decide +kernel
theorem dX5_init_45 : decode cX5_init 45 = .ok (.putfield 25, 3) := by decide +kernel
theorem dX5_init_48 : decode cX5_init 48 = .ok (.aload_n 0, 1) := by decide +kernel
theorem dX5_init_49 : decode cX5_init 49 = .ok (.new 29, 3) := by decide +kernel
theorem dX5_init_52 : decode cX5_init 52 = .ok (.dup, 1) := by decide +kernel
theorem dX5_init_53 : decode cX5_init 53 = .ok (.invokespecial 31, 3) := by decide +kernel
theorem dX5_init_56 : decode cX5_init 56 = .ok (.putfield 32, 3) := by decide +kernel
theorem dX5_init_59 : decode cX5_init 59 = .ok (.return_, 1) := by decide +kernel
theorem dX5_feel_0 : decode cX5_feel 0 = .ok (.aload_n 0, 1) := by decide +kernel
theorem dX5_feel_1 : decode cX5_feel 1 = .ok (.iload_n 1, 1) := by decide +kernel
theorem dX5_feel_2 : decode cX5_feel 2 = .ok (.invokevirtual 36, 3) := by decide +kernel
theorem dX5_feel_5 : decode cX5_feel 5 = .ok (.astore 4, 2) := by decide +kernel
theorem dX5_feel_7 : decode cX5_feel 7 = .ok (.iload_n 2, 1) := by decide +kernel
theorem dX5_feel_8 : decode cX5_feel 8 = .ok (.invokestatic 40, 3) := by decide +kernel
theorem dX5_feel_11 : decode cX5_feel 11 = .ok (.iload_n 3, 1) := by decide +kernel
theorem dX5_feel_12 : decode cX5_feel 12 = .ok (.iconst 1, 1) := by decide +kernel
theorem dX5_feel_13 : decode cX5_feel 13 = .ok (.if_icmp .lt 10, 3) := by decide +kernel
theorem dX5_feel_16 : decode cX5_feel 16 = .ok (.iload_n 3, 1) := by decide +kernel
theorem dX5_feel_17 : decode cX5_feel 17 = .ok (.sipush 1000, 3) := by decide +kernel
theorem dX5_feel_20 : decode cX5_feel 20 = .ok (.if_icmp .le 13, 3) := by decide +kernel
theorem dX5_feel_23 : decode cX5_feel 23 = .ok (.new 44, 3) := by decide +kernel
theorem dX5_feel_26 : decode cX5_feel 26 = .ok (.dup, 1) := by decide +kernel
theorem dX5_feel_27 : decode cX5_feel 27 = .ok (.ldc 46, 2) := by decide +kernel
theorem dX5_feel_29 : decode cX5_feel 29 = .ok (.invokespecial 48, 3) := by decide +kernel
theorem dX5_feel_32 : decode cX5_feel 32 = .ok (.athrow, 1) := by decide +kernel
theorem dX5_feel_33 : decode cX5_feel 33 = .ok (.aload 4, 2) := by decide +kernel
theorem dX5_feel_35 : decode cX5_feel 35 = .ok (.aload_n 0, 1) := by decide +kernel
theorem dX5_feel_36 : decode cX5_feel 36 = .ok (.getfield 10, 3) := by decide +kernel
theorem dX5_feel_39 : decode cX5_feel 39 = .ok (.getfield 51, 3) := by decide +kernel
theorem dX5_feel_42 : decode cX5_feel 42 = .ok (.iload_n 2, 1) := by decide +kernel
theorem dX5_feel_43 : decode cX5_feel 43 = .ok (.invokevirtual 55, 3) := by decide +kernel
theorem dX5_feel_46 : decode cX5_feel 46 = .ok (.istore 5, 2) := by decide +kernel
theorem dX5_feel_48 : decode cX5_feel 48 = .ok (.aload 4, 2) := by decide +kernel
theorem dX5_feel_50 : decode cX5_feel 50 = .ok (.iload_n 3, 1) := by decide +kernel
theorem dX5_feel_51 : decode cX5_feel 51 = .ok (.iload 5, 2) := by decide +kernel
theorem dX5_feel_53 : decode cX5_feel 53 = .ok (.invokestatic 61, 3) := by decide +kernel
theorem dX5_feel_56 : decode cX5_feel 56 = .ok (.invokestatic 67, 3) := by decide +kernel
theorem dX5_feel_59 : decode cX5_feel 59 = .ok (.aload_n 0, 1) := by decide +kernel
theorem dX5_feel_60 : decode cX5_feel 60 = .ok (.getfield 25, 3) := by decide +kernel
theorem dX5_feel_63 : decode cX5_feel 63 = .ok (.aload_n 0, 1) := by decide +kernel
theorem dX5_feel_64 : decode cX5_feel 64 = .ok (.getfield 10, 3) := by decide +kernel
theorem dX5_feel_67 : decode cX5_feel 67 = .ok (.invokevirtual 71, 3) := by decide +kernel
theorem dX5_feel_70 : decode cX5_feel 70 = .ok (.aload 4, 2) := by decide +kernel
theorem dX5_feel_72 : decode cX5_feel 72 = .ok (.iload_n 2, 1) := by decide +kernel
theorem dX5_feel_73 : decode cX5_feel 73 = .ok (.iload 5, 2) := by decide +kernel
theorem dX5_feel_75 : decode cX5_feel 75 = .ok (.iload_n 3, 1) := by decide +kernel
theorem dX5_feel_76 : decode cX5_feel 76 = .ok (.invokevirtual 75, 3) := by decide +kernel
theorem dX5_feel_79 : decode cX5_feel 79 = .ok (.iload 5, 2) := by decide +kernel
theorem dX5_feel_81 : decode cX5_feel 81 = .ok (.ireturn, 1) := by decide +kernel
theorem dX5_crawl_0 : decode cX5_crawl 0 = .ok (.aload_n 0, 1) := by decide +kernel
theorem dX5_crawl_1 : decode cX5_crawl 1 = .ok (.iload_n 1, 1) := by decide +kernel
theorem dX5_crawl_2 : decode cX5_crawl 2 = .ok (.invokevirtual 36, 3) := by decide +kernel
theorem dX5_crawl_5 : decode cX5_crawl 5 = .ok (.astore_n 3, 1) := by decide +kernel
theorem dX5_crawl_6 : decode cX5_crawl 6 = .ok (.iload_n 2, 1) := by decide +kernel
theorem dX5_crawl_7 : decode cX5_crawl 7 = .ok (.bipush (-100), 2) := by decide +kernel
theorem dX5_crawl_9 : decode cX5_crawl 9 = .ok (.if_icmp .lt 9, 3) := by decide +kernel
theorem dX5_crawl_12 : decode cX5_crawl 12 = .ok (.iload_n 2, 1) := by decide +kernel
theorem dX5_crawl_13 : decode cX5_crawl 13 = .ok (.bipush 100, 2) := by decide +kernel
theorem dX5_crawl_15 : decode cX5_crawl 15 = .ok (.if_icmp .le 13, 3) := by decide +kernel
theorem dX5_crawl_18 : decode cX5_crawl 18 = .ok (.new 44, 3) := by decide +kernel
theorem dX5_crawl_21 : decode cX5_crawl 21 = .ok (.dup, 1) := by decide +kernel
theorem dX5_crawl_22 : decode cX5_crawl 22 = .ok (.ldc 79, 2) := by decide +kernel
theorem dX5_crawl_24 : decode cX5_crawl 24 = .ok (.invokespecial 48, 3) := by decide +kernel
theorem dX5_crawl_27 : decode cX5_crawl 27 = .ok (.athrow, 1) := by decide +kernel
theorem dX5_crawl_28 : decode cX5_crawl 28 = .ok (.iload_n 2, 1) := by decide +kernel
theorem dX5_crawl_29 : decode cX5_crawl 29 = .ok (.invokestatic 61, 3) := by decide +kernel
theorem dX5_crawl_32 : decode cX5_crawl 32 = .ok (.istore 4, 2) := by decide +kernel
theorem dX5_crawl_34 : decode cX5_crawl 34 = .ok (.aload_n 3, 1) := by decide +kernel
theorem dX5_crawl_35 : decode cX5_crawl 35 = .ok (.iload 4, 2) := by decide +kernel
theorem dX5_crawl_37 : decode cX5_crawl 37 = .ok (.iload 4, 2) := by decide +kernel
theorem dX5_crawl_39 : decode cX5_crawl 39 = .ok (.invokestatic 67, 3) := by decide +kernel
theorem dX5_crawl_42 : decode cX5_crawl 42 = .ok (.aload_n 0, 1) := by decide +kernel
theorem dX5_crawl_43 : decode cX5_crawl 43 = .ok (.getfield 25, 3) := by decide +kernel
theorem dX5_crawl_46 : decode cX5_crawl 46 = .ok (.aload_n 0, 1) := by decide +kernel
theorem dX5_crawl_47 : decode cX5_crawl 47 = .ok (.getfield 10, 3) := by decide +kernel
theorem dX5_crawl_50 : decode cX5_crawl 50 = .ok (.invokevirtual 71, 3) := by decide +kernel
theorem dX5_crawl_53 : decode cX5_crawl 53 = .ok (.iload_n 2, 1) := by decide +kernel
theorem dX5_crawl_54 : decode cX5_crawl 54 = .ok (.ifCond .ge 7, 3) := by decide +kernel
theorem dX5_crawl_57 : decode cX5_crawl 57 = .ok (.iconst (-1), 1) := by decide +kernel
theorem dX5_crawl_58 : decode cX5_crawl 58 = .ok (.goto 4, 3) := by decide +kernel
theorem dX5_crawl_61 : decode cX5_crawl 61 = .ok (.iconst 1, 1) := by decide +kernel
theorem dX5_crawl_62 : decode cX5_crawl 62 = .ok (.istore 5, 2) := by decide +kernel
theorem dX5_crawl_64 : decode cX5_crawl 64 = .ok (.iconst 0, 1) := by decide +kernel
theorem dX5_crawl_65 : decode cX5_crawl 65 = .ok (.istore 6, 2) := by decide +kernel
theorem dX5_crawl_67 : decode cX5_crawl 67 = .ok (.iload 6, 2) := by decide +kernel
theorem dX5_crawl_69 : decode cX5_crawl 69 = .ok (.iload 4, 2) := by decide +kernel
theorem dX5_crawl_71 : decode cX5_crawl 71 = .ok (.if_icmp .ge 22, 3) := by decide +kernel
theorem dX5_crawl_74 : decode cX5_crawl 74 = .ok (.aload_n 3, 1) := by decide +kernel
theorem dX5_crawl_75 : decode cX5_crawl 75 = .ok (.aload_n 3, 1) := by decide +kernel
theorem dX5_crawl_76 : decode cX5_crawl 76 = .ok (.iload 5, 2) := by decide +kernel
theorem dX5_crawl_78 : decode cX5_crawl 78 = .ok (.invokevirtual 81, 3) := by decide +kernel
theorem dX5_crawl_81 : decode cX5_crawl 81 = .ok (.iload 5, 2) := by decide +kernel
theorem dX5_crawl_83 : decode cX5_crawl 83 = .ok (.iconst 1, 1) := by decide +kernel
theorem dX5_crawl_84 : decode cX5_crawl 84 = .ok (.invokevirtual 75, 3) := by decide +kernel
theorem dX5_crawl_87 : decode cX5_crawl 87 = .ok (.iinc 6 1, 3) := by decide +kernel
theorem dX5_crawl_90 : decode cX5_crawl 90 = .ok (.goto (-23), 3) := by decide +kernel
theorem dX5_crawl_93 : decode cX5_crawl 93 = .ok (.aload_n 3, 1) := by decide +kernel
theorem dX5_crawl_94 : decode cX5_crawl 94 = .ok (.getfield 84, 3) := by decide +kernel
theorem dX5_crawl_97 : decode cX5_crawl 97 = .ok (.ireturn, 1) := by decide +kernel
theorem dX5_meetMark_0 : decode cX5_meetMark 0 = .ok (.aload_n 0, 1) := by decide +kernel
theorem dX5_meetMark_1 : decode cX5_meetMark 1 = .ok (.iload_n 1, 1) := by decide +kernel
theorem dX5_meetMark_2 : decode cX5_meetMark 2 = .ok (.invokevirtual 36, 3) := by decide +kernel
theorem dX5_meetMark_5 : decode cX5_meetMark 5 = .ok (.astore_n 2, 1) := by decide +kernel
theorem dX5_meetMark_6 : decode cX5_meetMark 6 = .ok (.aload_n 0, 1) := by decide +kernel
theorem dX5_meetMark_7 : decode cX5_meetMark 7 = .ok (.getfield 25, 3) := by decide +kernel
theorem dX5_meetMark_10 : decode cX5_meetMark 10 = .ok (.aload_n 0, 1) := by decide +kernel
theorem dX5_meetMark_11 : decode cX5_meetMark 11 = .ok (.getfield 10, 3) := by decide +kernel
theorem dX5_meetMark_14 : decode cX5_meetMark 14 = .ok (.invokevirtual 71, 3) := by decide +kernel
theorem dX5_meetMark_17 : decode cX5_meetMark 17 = .ok (.aload_n 2, 1) := by decide +kernel
theorem dX5_meetMark_18 : decode cX5_meetMark 18 = .ok (.aload_n 0, 1) := by decide +kernel
theorem dX5_meetMark_19 : decode cX5_meetMark 19 = .ok (.getfield 10, 3) := by decide +kernel
theorem dX5_meetMark_22 : decode cX5_meetMark 22 = .ok (.getfield 87, 3) := by decide +kernel
theorem dX5_meetMark_25 : decode cX5_meetMark 25 = .ok (.invokevirtual 90, 3) := by decide +kernel
theorem dX5_meetMark_28 : decode cX5_meetMark 28 = .ok (.ireturn, 1) := by decide +kernel
theorem dX5_goBack_0 : decode cX5_goBack 0 = .ok (.aload_n 0, 1) := by decide +kernel
theorem dX5_goBack_1 : decode cX5_goBack 1 = .ok (.iload_n 1, 1) := by decide +kernel
theorem dX5_goBack_2 : decode cX5_goBack 2 = .ok (.invokevirtual 36, 3) := by decide +kernel
theorem dX5_goBack_5 : decode cX5_goBack 5 = .ok (.astore_n 3, 1) := by decide +kernel
theorem dX5_goBack_6 : decode cX5_goBack 6 = .ok (.iload_n 2, 1) := by decide +kernel
theorem dX5_goBack_7 : decode cX5_goBack 7 = .ok (.iconst 1, 1) := by decide +kernel
theorem dX5_goBack_8 : decode cX5_goBack 8 = .ok (.if_icmp .lt 9, 3) := by decide +kernel
theorem dX5_goBack_11 : decode cX5_goBack 11 = .ok (.iload_n 2, 1) := by decide +kernel
theorem dX5_goBack_12 : decode cX5_goBack 12 = .ok (.bipush 16, 2) := by decide +kernel
theorem dX5_goBack_14 : decode cX5_goBack 14 = .ok (.if_icmp .le 13, 3) := by decide +kernel
theorem dX5_goBack_17 : decode cX5_goBack 17 = .ok (.new 44, 3) := by decide +kernel
theorem dX5_goBack_20 : decode cX5_goBack 20 = .ok (.dup, 1) := by decide +kernel
theorem dX5_goBack_21 : decode cX5_goBack 21 = .ok (.ldc 93, 2) := by decide +kernel
theorem dX5_goBack_23 : decode cX5_goBack 23 = .ok (.invokespecial 48, 3) := by decide +kernel
theorem dX5_goBack_26 : decode cX5_goBack 26 = .ok (.athrow, 1) := by decide +kernel
theorem dX5_goBack_27 : decode cX5_goBack 27 = .ok (.aload_n 3, 1) := by decide +kernel
theorem dX5_goBack_28 : decode cX5_goBack 28 = .ok (.iload_n 2, 1) := by decide +kernel
theorem dX5_goBack_29 : decode cX5_goBack 29 = .ok (.invokevirtual 95, 3) := by decide +kernel
theorem dX5_goBack_32 : decode cX5_goBack 32 = .ok (.ifCond .ne 13, 3) := by decide +kernel
theorem dX5_goBack_35 : decode cX5_goBack 35 = .ok (.new 99, 3) := by decide +kernel
theorem dX5_goBack_38 : decode cX5_goBack 38 = .ok (.dup, 1) := by decide +kernel
theorem dX5_goBack_39 : decode cX5_goBack 39 = .ok (.ldc 101, 2) := by decide +kernel
theorem dX5_goBack_41 : decode cX5_goBack 41 = .ok (.invokespecial 103, 3) := by decide +kernel
theorem dX5_goBack_44 : decode cX5_goBack 44 = .ok (.athrow, 1) := by decide +kernel
theorem dX5_goBack_45 : decode cX5_goBack 45 = .ok (.aload_n 0, 1) := by decide +kernel
theorem dX5_goBack_46 : decode cX5_goBack 46 = .ok (.getfield 25, 3) := by decide +kernel
theorem dX5_goBack_49 : decode cX5_goBack 49 = .ok (.aload_n 0, 1) := by decide +kernel
theorem dX5_goBack_50 : decode cX5_goBack 50 = .ok (.getfield 10, 3) := by decide +kernel
theorem dX5_goBack_53 : decode cX5_goBack 53 = .ok (.invokevirtual 71, 3) := by decide +kernel
theorem dX5_goBack_56 : decode cX5_goBack 56 = .ok (.aload_n 3, 1) := by decide +kernel
theorem dX5_goBack_57 : decode cX5_goBack 57 = .ok (.iload_n 2, 1) := by decide +kernel
theorem dX5_goBack_58 : decode cX5_goBack 58 = .ok (.invokevirtual 104, 3) := by decide +kernel
theorem dX5_goBack_61 : decode cX5_goBack 61 = .ok (.aload_n 3, 1) := by decide +kernel
theorem dX5_goBack_62 : decode cX5_goBack 62 = .ok (.getfield 84, 3) := by decide +kernel
theorem dX5_goBack_65 : decode cX5_goBack 65 = .ok (.ireturn, 1) := by decide +kernel
theorem dX5_setRule_0 : decode cX5_setRule 0 = .ok (.iload_n 1, 1) := by decide +kernel
theorem dX5_setRule_1 : decode cX5_setRule 1 = .ok (.ifCond .eq 18, 3) := by decide +kernel
theorem dX5_setRule_4 : decode cX5_setRule 4 = .ok (.iload_n 1, 1) := by decide +kernel
theorem dX5_setRule_5 : decode cX5_setRule 5 = .ok (.iconst 1, 1) := by decide +kernel
theorem dX5_setRule_6 : decode cX5_setRule 6 = .ok (.if_icmp .eq 13, 3) := by decide +kernel
theorem dX5_setRule_9 : decode cX5_setRule 9 = .ok (.new 44, 3) := by decide +kernel
theorem dX5_setRule_12 : decode cX5_setRule 12 = .ok (.dup, 1) := by decide +kernel
theorem dX5_setRule_13 : decode cX5_setRule 13 = .ok (.ldc 107, 2) := by decide +kernel
theorem dX5_setRule_15 : decode cX5_setRule 15 = .ok (.invokespecial 48, 3) := by decide +kernel
theorem dX5_setRule_18 : decode cX5_setRule 18 = .ok (.athrow, 1) := by decide +kernel
theorem dX5_setRule_19 : decode cX5_setRule 19 = .ok (.aload_n 0, 1) := by decide +kernel
theorem dX5_setRule_20 : decode cX5_setRule 20 = .ok (.getfield 25, 3) := by decide +kernel
theorem dX5_setRule_23 : decode cX5_setRule 23 = .ok (.aload_n 0, 1) := by decide +kernel
theorem dX5_setRule_24 : decode cX5_setRule 24 = .ok (.getfield 10, 3) := by decide +kernel
theorem dX5_setRule_27 : decode cX5_setRule 27 = .ok (.invokevirtual 71, 3) := by decide +kernel
theorem dX5_setRule_30 : decode cX5_setRule 30 = .ok (.aload_n 0, 1) := by decide +kernel
theorem dX5_setRule_31 : decode cX5_setRule 31 = .ok (.getfield 10, 3) := by decide +kernel
theorem dX5_setRule_34 : decode cX5_setRule 34 = .ok (.getfield 51, 3) := by decide +kernel
theorem dX5_setRule_37 : decode cX5_setRule 37 = .ok (.istore_n 2, 1) := by decide +kernel
theorem dX5_setRule_38 : decode cX5_setRule 38 = .ok (.aload_n 0, 1) := by decide +kernel
theorem dX5_setRule_39 : decode cX5_setRule 39 = .ok (.getfield 10, 3) := by decide +kernel
theorem dX5_setRule_42 : decode cX5_setRule 42 = .ok (.iload_n 1, 1) := by decide +kernel
theorem dX5_setRule_43 : decode cX5_setRule 43 = .ok (.putfield 51, 3) := by decide +kernel
theorem dX5_setRule_46 : decode cX5_setRule 46 = .ok (.iload_n 2, 1) := by decide +kernel
theorem dX5_setRule_47 : decode cX5_setRule 47 = .ok (.ireturn, 1) := by decide +kernel
theorem dX5_setCounts_0 : decode cX5_setCounts 0 = .ok (.iload_n 1, 1) := by decide +kernel
theorem dX5_setCounts_1 : decode cX5_setCounts 1 = .ok (.iconst 4, 1) := by decide +kernel
theorem dX5_setCounts_2 : decode cX5_setCounts 2 = .ok (.if_icmp .lt 16, 3) := by decide +kernel
theorem dX5_setCounts_5 : decode cX5_setCounts 5 = .ok (.iload_n 1, 1) := by decide +kernel
theorem dX5_setCounts_6 : decode cX5_setCounts 6 = .ok (.sipush 400, 3) := by decide +kernel
theorem dX5_setCounts_9 : decode cX5_setCounts 9 = .ok (.if_icmp .gt 9, 3) := by decide +kernel
theorem dX5_setCounts_12 : decode cX5_setCounts 12 = .ok (.iload_n 1, 1) := by decide +kernel
theorem dX5_setCounts_13 : decode cX5_setCounts 13 = .ok (.iconst 4, 1) := by decide +kernel
theorem dX5_setCounts_14 : decode cX5_setCounts 14 = .ok (.irem, 1) := by decide +kernel
theorem dX5_setCounts_15 : decode cX5_setCounts 15 = .ok (.ifCond .eq 13, 3) := by decide +kernel
theorem dX5_setCounts_18 : decode cX5_setCounts 18 = .ok (.new 44, 3) := by decide +kernel
theorem dX5_setCounts_21 : decode cX5_setCounts 21 = .ok (.dup, 1) := by decide +kernel
theorem dX5_setCounts_22 : decode cX5_setCounts 22 = .ok (.ldc 109, 2) := by decide +kernel
theorem dX5_setCounts_24 : decode cX5_setCounts 24 = .ok (.invokespecial 48, 3) := by decide +kernel
theorem dX5_setCounts_27 : decode cX5_setCounts 27 = .ok (.athrow, 1) := by decide +kernel
theorem dX5_setCounts_28 : decode cX5_setCounts 28 = .ok (.aload_n 0, 1) := by decide +kernel
theorem dX5_setCounts_29 : decode cX5_setCounts 29 = .ok (.getfield 25, 3) := by decide +kernel
theorem dX5_setCounts_32 : decode cX5_setCounts 32 = .ok (.aload_n 0, 1) := by decide +kernel
theorem dX5_setCounts_33 : decode cX5_setCounts 33 = .ok (.getfield 10, 3) := by decide +kernel
theorem dX5_setCounts_36 : decode cX5_setCounts 36 = .ok (.invokevirtual 71, 3) := by decide +kernel
theorem dX5_setCounts_39 : decode cX5_setCounts 39 = .ok (.aload_n 0, 1) := by decide +kernel
theorem dX5_setCounts_40 : decode cX5_setCounts 40 = .ok (.getfield 10, 3) := by decide +kernel
theorem dX5_setCounts_43 : decode cX5_setCounts 43 = .ok (.getfield 87, 3) := by decide +kernel
theorem dX5_setCounts_46 : decode cX5_setCounts 46 = .ok (.istore_n 2, 1) := by decide +kernel
theorem dX5_setCounts_47 : decode cX5_setCounts 47 = .ok (.aload_n 0, 1) := by decide +kernel
theorem dX5_setCounts_48 : decode cX5_setCounts 48 = .ok (.getfield 10, 3) := by decide +kernel
theorem dX5_setCounts_51 : decode cX5_setCounts 51 = .ok (.iload_n 1, 1) := by decide +kernel
theorem dX5_setCounts_52 : decode cX5_setCounts 52 = .ok (.putfield 87, 3) := by decide +kernel
theorem dX5_setCounts_55 : decode cX5_setCounts 55 = .ok (.iload_n 2, 1) := by decide +kernel
theorem dX5_setCounts_56 : decode cX5_setCounts 56 = .ok (.ireturn, 1) := by decide +kernel
theorem dX5_stateOf_0 : decode cX5_stateOf 0 = .ok (.aload_n 0, 1) := by decide +kernel
theorem dX5_stateOf_1 : decode cX5_stateOf 1 = .ok (.iload_n 1, 1) := by decide +kernel
theorem dX5_stateOf_2 : decode cX5_stateOf 2 = .ok (.invokevirtual 36, 3) := by decide +kernel
theorem dX5_stateOf_5 : decode cX5_stateOf 5 = .ok (.getfield 154, 3) := by decide +kernel
theorem dX5_stateOf_8 : decode cX5_stateOf 8 = .ok (.ireturn, 1) := by decide +kernel
theorem dX5_positionOf_0 : decode cX5_positionOf 0 = .ok (.aload_n 0, 1) := by decide +kernel
theorem dX5_positionOf_1 : decode cX5_positionOf 1 = .ok (.iload_n 1, 1) := by decide +kernel
theorem dX5_positionOf_2 : decode cX5_positionOf 2 = .ok (.invokevirtual 36, 3) := by decide +kernel
theorem dX5_positionOf_5 : decode cX5_positionOf 5 = .ok (.getfield 84, 3) := by decide +kernel
theorem dX5_positionOf_8 : decode cX5_positionOf 8 = .ok (.ireturn, 1) := by decide +kernel
theorem dX5_positionByTracks_0 : decode cX5_positionByTracks 0 = .ok (.aload_n 0, 1) := by decide +kernel
theorem dX5_positionByTracks_1 : decode cX5_positionByTracks 1 = .ok (.iload_n 1, 1) := by decide +kernel
theorem dX5_positionByTracks_2 : decode cX5_positionByTracks 2 = .ok (.invokevirtual 36, 3) := by decide +kernel
theorem dX5_positionByTracks_5 : decode cX5_positionByTracks 5 = .ok (.astore_n 2, 1) := by decide +kernel
theorem dX5_positionByTracks_6 : decode cX5_positionByTracks 6 = .ok (.aload_n 2, 1) := by decide +kernel
theorem dX5_positionByTracks_7 : decode cX5_positionByTracks 7 = .ok (.getfield 157, 3) := by decide +kernel
theorem dX5_positionByTracks_10 : decode cX5_positionByTracks 10 = .ok (.aload_n 2, 1) := by decide +kernel
theorem dX5_positionByTracks_11 : decode cX5_positionByTracks 11 = .ok (.getfield 160, 3) := by decide +kernel
theorem dX5_positionByTracks_14 : decode cX5_positionByTracks 14 = .ok (.iadd, 1) := by decide +kernel
theorem dX5_positionByTracks_15 : decode cX5_positionByTracks 15 = .ok (.aload_n 2, 1) := by decide +kernel
theorem dX5_positionByTracks_16 : decode cX5_positionByTracks 16 = .ok (.getfield 163, 3) := by decide +kernel
theorem dX5_positionByTracks_19 : decode cX5_positionByTracks 19 = .ok (.iadd, 1) := by decide +kernel
theorem dX5_positionByTracks_20 : decode cX5_positionByTracks 20 = .ok (.aload_n 2, 1) := by decide +kernel
theorem dX5_positionByTracks_21 : decode cX5_positionByTracks 21 = .ok (.getfield 166, 3) := by decide +kernel
theorem dX5_positionByTracks_24 : decode cX5_positionByTracks 24 = .ok (.isub, 1) := by decide +kernel
theorem dX5_positionByTracks_25 : decode cX5_positionByTracks 25 = .ok (.ireturn, 1) := by decide +kernel
theorem dX5_turnsOf_0 : decode cX5_turnsOf 0 = .ok (.aload_n 0, 1) := by decide +kernel
theorem dX5_turnsOf_1 : decode cX5_turnsOf 1 = .ok (.iload_n 1, 1) := by decide +kernel
theorem dX5_turnsOf_2 : decode cX5_turnsOf 2 = .ok (.invokevirtual 36, 3) := by decide +kernel
theorem dX5_turnsOf_5 : decode cX5_turnsOf 5 = .ok (.aload_n 0, 1) := by decide +kernel
theorem dX5_turnsOf_6 : decode cX5_turnsOf 6 = .ok (.getfield 10, 3) := by decide +kernel
theorem dX5_turnsOf_9 : decode cX5_turnsOf 9 = .ok (.getfield 87, 3) := by decide +kernel
theorem dX5_turnsOf_12 : decode cX5_turnsOf 12 = .ok (.invokevirtual 169, 3) := by decide +kernel
theorem dX5_turnsOf_15 : decode cX5_turnsOf 15 = .ok (.ireturn, 1) := by decide +kernel
theorem dX5_placeOf_0 : decode cX5_placeOf 0 = .ok (.aload_n 0, 1) := by decide +kernel
theorem dX5_placeOf_1 : decode cX5_placeOf 1 = .ok (.iload_n 1, 1) := by decide +kernel
theorem dX5_placeOf_2 : decode cX5_placeOf 2 = .ok (.invokevirtual 36, 3) := by decide +kernel
theorem dX5_placeOf_5 : decode cX5_placeOf 5 = .ok (.aload_n 0, 1) := by decide +kernel
theorem dX5_placeOf_6 : decode cX5_placeOf 6 = .ok (.getfield 10, 3) := by decide +kernel
theorem dX5_placeOf_9 : decode cX5_placeOf 9 = .ok (.getfield 87, 3) := by decide +kernel
theorem dX5_placeOf_12 : decode cX5_placeOf 12 = .ok (.invokevirtual 172, 3) := by decide +kernel
theorem dX5_placeOf_15 : decode cX5_placeOf 15 = .ok (.ireturn, 1) := by decide +kernel
theorem dX5_directionOf_0 : decode cX5_directionOf 0 = .ok (.aload_n 0, 1) := by decide +kernel
theorem dX5_directionOf_1 : decode cX5_directionOf 1 = .ok (.iload_n 1, 1) := by decide +kernel
theorem dX5_directionOf_2 : decode cX5_directionOf 2 = .ok (.invokevirtual 36, 3) := by decide +kernel
theorem dX5_directionOf_5 : decode cX5_directionOf 5 = .ok (.getfield 175, 3) := by decide +kernel
theorem dX5_directionOf_8 : decode cX5_directionOf 8 = .ok (.ireturn, 1) := by decide +kernel
theorem dX5_countOfA_0 : decode cX5_countOfA 0 = .ok (.aload_n 0, 1) := by decide +kernel
theorem dX5_countOfA_1 : decode cX5_countOfA 1 = .ok (.iload_n 1, 1) := by decide +kernel
theorem dX5_countOfA_2 : decode cX5_countOfA 2 = .ok (.invokevirtual 36, 3) := by decide +kernel
theorem dX5_countOfA_5 : decode cX5_countOfA 5 = .ok (.getfield 157, 3) := by decide +kernel
theorem dX5_countOfA_8 : decode cX5_countOfA 8 = .ok (.ireturn, 1) := by decide +kernel
theorem dX5_leader_0 : decode cX5_leader 0 = .ok (.iconst 0, 1) := by decide +kernel
theorem dX5_leader_1 : decode cX5_leader 1 = .ok (.istore_n 1, 1) := by decide +kernel
theorem dX5_leader_2 : decode cX5_leader 2 = .ok (.iconst 1, 1) := by decide +kernel
theorem dX5_leader_3 : decode cX5_leader 3 = .ok (.istore_n 2, 1) := by decide +kernel
theorem dX5_leader_4 : decode cX5_leader 4 = .ok (.iload_n 2, 1) := by decide +kernel
theorem dX5_leader_5 : decode cX5_leader 5 = .ok (.iconst 4, 1) := by decide +kernel
theorem dX5_leader_6 : decode cX5_leader 6 = .ok (.if_icmp .ge 36, 3) := by decide +kernel
theorem dX5_leader_9 : decode cX5_leader 9 = .ok (.aload_n 0, 1) := by decide +kernel
theorem dX5_leader_10 : decode cX5_leader 10 = .ok (.getfield 10, 3) := by decide +kernel
theorem dX5_leader_13 : decode cX5_leader 13 = .ok (.iload_n 2, 1) := by decide +kernel
theorem dX5_leader_14 : decode cX5_leader 14 = .ok (.invokevirtual 178, 3) := by decide +kernel
theorem dX5_leader_17 : decode cX5_leader 17 = .ok (.getfield 84, 3) := by decide +kernel
theorem dX5_leader_20 : decode cX5_leader 20 = .ok (.aload_n 0, 1) := by decide +kernel
theorem dX5_leader_21 : decode cX5_leader 21 = .ok (.getfield 10, 3) := by decide +kernel
theorem dX5_leader_24 : decode cX5_leader 24 = .ok (.iload_n 1, 1) := by decide +kernel
theorem dX5_leader_25 : decode cX5_leader 25 = .ok (.invokevirtual 178, 3) := by decide +kernel
theorem dX5_leader_28 : decode cX5_leader 28 = .ok (.getfield 84, 3) := by decide +kernel
theorem dX5_leader_31 : decode cX5_leader 31 = .ok (.if_icmp .le 5, 3) := by decide +kernel
theorem dX5_leader_34 : decode cX5_leader 34 = .ok (.iload_n 2, 1) := by decide +kernel
theorem dX5_leader_35 : decode cX5_leader 35 = .ok (.istore_n 1, 1) := by decide +kernel
theorem dX5_leader_36 : decode cX5_leader 36 = .ok (.iinc 2 1, 3) := by decide +kernel
theorem dX5_leader_39 : decode cX5_leader 39 = .ok (.goto (-35), 3) := by decide +kernel
theorem dX5_leader_42 : decode cX5_leader 42 = .ok (.iload_n 1, 1) := by decide +kernel
theorem dX5_leader_43 : decode cX5_leader 43 = .ok (.ireturn, 1) := by decide +kernel
theorem dX5_stepTo_0 : decode cX5_stepTo 0 = .ok (.aload_n 0, 1) := by decide +kernel
theorem dX5_stepTo_1 : decode cX5_stepTo 1 = .ok (.iload_n 1, 1) := by decide +kernel
theorem dX5_stepTo_2 : decode cX5_stepTo 2 = .ok (.invokevirtual 36, 3) := by decide +kernel
theorem dX5_stepTo_5 : decode cX5_stepTo 5 = .ok (.astore_n 3, 1) := by decide +kernel
theorem dX5_stepTo_6 : decode cX5_stepTo 6 = .ok (.iload_n 2, 1) := by decide +kernel
theorem dX5_stepTo_7 : decode cX5_stepTo 7 = .ok (.invokestatic 40, 3) := by decide +kernel
theorem dX5_stepTo_10 : decode cX5_stepTo 10 = .ok (.aload_n 3, 1) := by decide +kernel
theorem dX5_stepTo_11 : decode cX5_stepTo 11 = .ok (.aload_n 0, 1) := by decide +kernel
theorem dX5_stepTo_12 : decode cX5_stepTo 12 = .ok (.getfield 10, 3) := by decide +kernel
theorem dX5_stepTo_15 : decode cX5_stepTo 15 = .ok (.getfield 51, 3) := by decide +kernel
theorem dX5_stepTo_18 : decode cX5_stepTo 18 = .ok (.iload_n 2, 1) := by decide +kernel
theorem dX5_stepTo_19 : decode cX5_stepTo 19 = .ok (.invokevirtual 55, 3) := by decide +kernel
theorem dX5_stepTo_22 : decode cX5_stepTo 22 = .ok (.ireturn, 1) := by decide +kernel
theorem dX5_logLength_0 : decode cX5_logLength 0 = .ok (.aload_n 0, 1) := by decide +kernel
theorem dX5_logLength_1 : decode cX5_logLength 1 = .ok (.iload_n 1, 1) := by decide +kernel
theorem dX5_logLength_2 : decode cX5_logLength 2 = .ok (.invokevirtual 36, 3) := by decide +kernel
theorem dX5_logLength_5 : decode cX5_logLength 5 = .ok (.getfield 181, 3) := by decide +kernel
theorem dX5_logLength_8 : decode cX5_logLength 8 = .ok (.getfield 185, 3) := by decide +kernel
theorem dX5_logLength_11 : decode cX5_logLength 11 = .ok (.ireturn, 1) := by decide +kernel
theorem dX5_loggedStep_0 : decode cX5_loggedStep 0 = .ok (.aload_n 0, 1) := by decide +kernel
theorem dX5_loggedStep_1 : decode cX5_loggedStep 1 = .ok (.iload_n 1, 1) := by decide +kernel
theorem dX5_loggedStep_2 : decode cX5_loggedStep 2 = .ok (.invokevirtual 36, 3) := by decide +kernel
theorem dX5_loggedStep_5 : decode cX5_loggedStep 5 = .ok (.astore_n 3, 1) := by decide +kernel
theorem dX5_loggedStep_6 : decode cX5_loggedStep 6 = .ok (.iload_n 2, 1) := by decide +kernel
theorem dX5_loggedStep_7 : decode cX5_loggedStep 7 = .ok (.ifCond .lt 14, 3) := by decide +kernel
theorem dX5_loggedStep_10 : decode cX5_loggedStep 10 = .ok (.iload_n 2, 1) := by decide +kernel
theorem dX5_loggedStep_11 : decode cX5_loggedStep 11 = .ok (.aload_n 3, 1) := by decide +kernel
theorem dX5_loggedStep_12 : decode cX5_loggedStep 12 = .ok (.getfield 181, 3) := by decide +kernel
theorem dX5_loggedStep_15 : decode cX5_loggedStep 15 = .ok (.getfield 185, 3) := by decide +kernel
theorem dX5_loggedStep_18 : decode cX5_loggedStep 18 = .ok (.if_icmp .lt 13, 3) := by decide +kernel
theorem dX5_loggedStep_21 : decode cX5_loggedStep 21 = .ok (.new 188, 3) := by decide +kernel
theorem dX5_loggedStep_24 : decode cX5_loggedStep 24 = .ok (.dup, 1) := by decide +kernel
theorem dX5_loggedStep_25 : decode cX5_loggedStep 25 = .ok (.ldc 190, 2) := by decide +kernel
theorem dX5_loggedStep_27 : decode cX5_loggedStep 27 = .ok (.invokespecial 192, 3) := by decide +kernel
theorem dX5_loggedStep_30 : decode cX5_loggedStep 30 = .ok (.athrow, 1) := by decide +kernel
theorem dX5_loggedStep_31 : decode cX5_loggedStep 31 = .ok (.aload_n 3, 1) := by decide +kernel
theorem dX5_loggedStep_32 : decode cX5_loggedStep 32 = .ok (.getfield 181, 3) := by decide +kernel
theorem dX5_loggedStep_35 : decode cX5_loggedStep 35 = .ok (.iload_n 2, 1) := by decide +kernel
theorem dX5_loggedStep_36 : decode cX5_loggedStep 36 = .ok (.invokevirtual 193, 3) := by decide +kernel
theorem dX5_loggedStep_39 : decode cX5_loggedStep 39 = .ok (.ireturn, 1) := by decide +kernel
theorem dX5_speedOf_0 : decode cX5_speedOf 0 = .ok (.aload_n 0, 1) := by decide +kernel
theorem dX5_speedOf_1 : decode cX5_speedOf 1 = .ok (.iload_n 1, 1) := by decide +kernel
theorem dX5_speedOf_2 : decode cX5_speedOf 2 = .ok (.invokevirtual 36, 3) := by decide +kernel
theorem dX5_speedOf_5 : decode cX5_speedOf 5 = .ok (.getfield 181, 3) := by decide +kernel
theorem dX5_speedOf_8 : decode cX5_speedOf 8 = .ok (.invokevirtual 196, 3) := by decide +kernel
theorem dX5_speedOf_11 : decode cX5_speedOf 11 = .ok (.dreturn, 1) := by decide +kernel
theorem dX5_errorsOf_0 : decode cX5_errorsOf 0 = .ok (.aload_n 0, 1) := by decide +kernel
theorem dX5_errorsOf_1 : decode cX5_errorsOf 1 = .ok (.iload_n 1, 1) := by decide +kernel
theorem dX5_errorsOf_2 : decode cX5_errorsOf 2 = .ok (.invokevirtual 36, 3) := by decide +kernel
theorem dX5_errorsOf_5 : decode cX5_errorsOf 5 = .ok (.getfield 200, 3) := by decide +kernel
theorem dX5_errorsOf_8 : decode cX5_errorsOf 8 = .ok (.ireturn, 1) := by decide +kernel
theorem dX5_slipsOf_0 : decode cX5_slipsOf 0 = .ok (.aload_n 0, 1) := by decide +kernel
theorem dX5_slipsOf_1 : decode cX5_slipsOf 1 = .ok (.iload_n 1, 1) := by decide +kernel
theorem dX5_slipsOf_2 : decode cX5_slipsOf 2 = .ok (.invokevirtual 36, 3) := by decide +kernel
theorem dX5_slipsOf_5 : decode cX5_slipsOf 5 = .ok (.getfield 203, 3) := by decide +kernel
theorem dX5_slipsOf_8 : decode cX5_slipsOf 8 = .ok (.ireturn, 1) := by decide +kernel
theorem dX5_distanceOf_0 : decode cX5_distanceOf 0 = .ok (.aload_n 0, 1) := by decide +kernel
theorem dX5_distanceOf_1 : decode cX5_distanceOf 1 = .ok (.iload_n 1, 1) := by decide +kernel
theorem dX5_distanceOf_2 : decode cX5_distanceOf 2 = .ok (.invokevirtual 36, 3) := by decide +kernel
theorem dX5_distanceOf_5 : decode cX5_distanceOf 5 = .ok (.getfield 206, 3) := by decide +kernel
theorem dX5_distanceOf_8 : decode cX5_distanceOf 8 = .ok (.ireturn, 1) := by decide +kernel
theorem dX5_ticksOf_0 : decode cX5_ticksOf 0 = .ok (.aload_n 0, 1) := by decide +kernel
theorem dX5_ticksOf_1 : decode cX5_ticksOf 1 = .ok (.iload_n 1, 1) := by decide +kernel
theorem dX5_ticksOf_2 : decode cX5_ticksOf 2 = .ok (.invokevirtual 36, 3) := by decide +kernel
theorem dX5_ticksOf_5 : decode cX5_ticksOf 5 = .ok (.getfield 209, 3) := by decide +kernel
theorem dX5_ticksOf_8 : decode cX5_ticksOf 8 = .ok (.ireturn, 1) := by decide +kernel
theorem dX5_counts_0 : decode cX5_counts 0 = .ok (.aload_n 0, 1) := by decide +kernel
theorem dX5_counts_1 : decode cX5_counts 1 = .ok (.getfield 10, 3) := by decide +kernel
theorem dX5_counts_4 : decode cX5_counts 4 = .ok (.getfield 87, 3) := by decide +kernel
theorem dX5_counts_7 : decode cX5_counts 7 = .ok (.ireturn, 1) := by decide +kernel
theorem dX5_rule_0 : decode cX5_rule 0 = .ok (.aload_n 0, 1) := by decide +kernel
theorem dX5_rule_1 : decode cX5_rule 1 = .ok (.getfield 10, 3) := by decide +kernel
theorem dX5_rule_4 : decode cX5_rule 4 = .ok (.getfield 51, 3) := by decide +kernel
theorem dX5_rule_7 : decode cX5_rule 7 = .ok (.ireturn, 1) := by decide +kernel
theorem dX5_snailNumbered_0 : decode cX5_snailNumbered 0 = .ok (.iload_n 1, 1) := by decide +kernel
theorem dX5_snailNumbered_1 : decode cX5_snailNumbered 1 = .ok (.ifCond .lt 8, 3) := by decide +kernel
theorem dX5_snailNumbered_4 : decode cX5_snailNumbered 4 = .ok (.iload_n 1, 1) := by decide +kernel
theorem dX5_snailNumbered_5 : decode cX5_snailNumbered 5 = .ok (.iconst 4, 1) := by decide +kernel
theorem dX5_snailNumbered_6 : decode cX5_snailNumbered 6 = .ok (.if_icmp .lt 13, 3) := by decide +kernel
theorem dX5_snailNumbered_9 : decode cX5_snailNumbered 9 = .ok (.new 188, 3) := by decide +kernel
theorem dX5_snailNumbered_12 : decode cX5_snailNumbered 12 = .ok (.dup, 1) := by decide +kernel
theorem dX5_snailNumbered_13 : decode cX5_snailNumbered 13 = .ok (.ldc 212, 2) := by decide +kernel
theorem dX5_snailNumbered_15 : decode cX5_snailNumbered 15 = .ok (.invokespecial 192, 3) := by decide +kernel
theorem dX5_snailNumbered_18 : decode cX5_snailNumbered 18 = .ok (.athrow, 1) := by decide +kernel
theorem dX5_snailNumbered_19 : decode cX5_snailNumbered 19 = .ok (.aload_n 0, 1) := by decide +kernel
theorem dX5_snailNumbered_20 : decode cX5_snailNumbered 20 = .ok (.getfield 10, 3) := by decide +kernel
theorem dX5_snailNumbered_23 : decode cX5_snailNumbered 23 = .ok (.iload_n 1, 1) := by decide +kernel
theorem dX5_snailNumbered_24 : decode cX5_snailNumbered 24 = .ok (.invokevirtual 178, 3) := by decide +kernel
theorem dX5_snailNumbered_27 : decode cX5_snailNumbered 27 = .ok (.areturn, 1) := by decide +kernel
theorem dX5_demandState_0 : decode cX5_demandState 0 = .ok (.iload_n 0, 1) := by decide +kernel
theorem dX5_demandState_1 : decode cX5_demandState 1 = .ok (.ifCond .lt 8, 3) := by decide +kernel
theorem dX5_demandState_4 : decode cX5_demandState 4 = .ok (.iload_n 0, 1) := by decide +kernel
theorem dX5_demandState_5 : decode cX5_demandState 5 = .ok (.iconst 4, 1) := by decide +kernel
theorem dX5_demandState_6 : decode cX5_demandState 6 = .ok (.if_icmp .lt 13, 3) := by decide +kernel
theorem dX5_demandState_9 : decode cX5_demandState 9 = .ok (.new 44, 3) := by decide +kernel
theorem dX5_demandState_12 : decode cX5_demandState 12 = .ok (.dup, 1) := by decide +kernel
theorem dX5_demandState_13 : decode cX5_demandState 13 = .ok (.ldc 214, 2) := by decide +kernel
theorem dX5_demandState_15 : decode cX5_demandState 15 = .ok (.invokespecial 48, 3) := by decide +kernel
theorem dX5_demandState_18 : decode cX5_demandState 18 = .ok (.athrow, 1) := by decide +kernel
theorem dX5_demandState_19 : decode cX5_demandState 19 = .ok (.return_, 1) := by decide +kernel
theorem dX5_demandRoom_0 : decode cX5_demandRoom 0 = .ok (.aload_n 0, 1) := by decide +kernel
theorem dX5_demandRoom_1 : decode cX5_demandRoom 1 = .ok (.iload_n 1, 1) := by decide +kernel
theorem dX5_demandRoom_2 : decode cX5_demandRoom 2 = .ok (.iload_n 2, 1) := by decide +kernel
theorem dX5_demandRoom_3 : decode cX5_demandRoom 3 = .ok (.invokevirtual 216, 3) := by decide +kernel
theorem dX5_demandRoom_6 : decode cX5_demandRoom 6 = .ok (.ifCond .ne 13, 3) := by decide +kernel
theorem dX5_demandRoom_9 : decode cX5_demandRoom 9 = .ok (.new 99, 3) := by decide +kernel
theorem dX5_demandRoom_12 : decode cX5_demandRoom 12 = .ok (.dup, 1) := by decide +kernel
theorem dX5_demandRoom_13 : decode cX5_demandRoom 13 = .ok (.ldc 220, 2) := by decide +kernel
theorem dX5_demandRoom_15 : decode cX5_demandRoom 15 = .ok (.invokespecial 103, 3) := by decide +kernel
theorem dX5_demandRoom_18 : decode cX5_demandRoom 18 = .ok (.athrow, 1) := by decide +kernel
theorem dX5_demandRoom_19 : decode cX5_demandRoom 19 = .ok (.return_, 1) := by decide +kernel
theorem dJ9_floorDiv_7cf53_0 : decode cJ9_floorDiv_7cf53 0 = .ok (.iload_n 0, 1) := by decide +kernel
theorem dJ9_floorDiv_7cf53_1 : decode cJ9_floorDiv_7cf53 1 = .ok (.iload_n 1, 1) := by decide +kernel
theorem dJ9_floorDiv_7cf53_2 : decode cJ9_floorDiv_7cf53 2 = .ok (.idiv, 1) := by decide +kernel
theorem dJ9_floorDiv_7cf53_3 : decode cJ9_floorDiv_7cf53 3 = .ok (.istore_n 2, 1) := by decide +kernel
theorem dJ9_floorDiv_7cf53_4 : decode cJ9_floorDiv_7cf53 4 = .ok (.iload_n 0, 1) := by decide +kernel
theorem dJ9_floorDiv_7cf53_5 : decode cJ9_floorDiv_7cf53 5 = .ok (.iload_n 1, 1) := by decide +kernel
theorem dJ9_floorDiv_7cf53_6 : decode cJ9_floorDiv_7cf53 6 = .ok (.ixor, 1) := by decide +kernel
theorem dJ9_floorDiv_7cf53_7 : decode cJ9_floorDiv_7cf53 7 = .ok (.ifCond .ge 14, 3) := by decide +kernel
theorem dJ9_floorDiv_7cf53_10 : decode cJ9_floorDiv_7cf53 10 = .ok (.iload_n 2, 1) := by decide +kernel
theorem dJ9_floorDiv_7cf53_11 : decode cJ9_floorDiv_7cf53 11 = .ok (.iload_n 1, 1) := by decide +kernel
theorem dJ9_floorDiv_7cf53_12 : decode cJ9_floorDiv_7cf53 12 = .ok (.imul, 1) := by decide +kernel
theorem dJ9_floorDiv_7cf53_13 : decode cJ9_floorDiv_7cf53 13 = .ok (.iload_n 0, 1) := by decide +kernel
theorem dJ9_floorDiv_7cf53_14 : decode cJ9_floorDiv_7cf53 14 = .ok (.if_icmp .eq 7, 3) := by decide +kernel
theorem dJ9_floorDiv_7cf53_17 : decode cJ9_floorDiv_7cf53 17 = .ok (.iload_n 2, 1) := by decide +kernel
theorem dJ9_floorDiv_7cf53_18 : decode cJ9_floorDiv_7cf53 18 = .ok (.iconst 1, 1) := by decide +kernel
theorem dJ9_floorDiv_7cf53_19 : decode cJ9_floorDiv_7cf53 19 = .ok (.isub, 1) := by decide +kernel
theorem dJ9_floorDiv_7cf53_20 : decode cJ9_floorDiv_7cf53 20 = .ok (.ireturn, 1) := by decide +kernel
theorem dJ9_floorDiv_7cf53_21 : decode cJ9_floorDiv_7cf53 21 = .ok (.iload_n 2, 1) := by decide +kernel
theorem dJ9_floorDiv_7cf53_22 : decode cJ9_floorDiv_7cf53 22 = .ok (.ireturn, 1) := by decide +kernel
theorem dJ9_floorMod_7cf53_0 : decode cJ9_floorMod_7cf53 0 = .ok (.iload_n 0, 1) := by decide +kernel
theorem dJ9_floorMod_7cf53_1 : decode cJ9_floorMod_7cf53 1 = .ok (.iload_n 1, 1) := by decide +kernel
theorem dJ9_floorMod_7cf53_2 : decode cJ9_floorMod_7cf53 2 = .ok (.irem, 1) := by decide +kernel
theorem dJ9_floorMod_7cf53_3 : decode cJ9_floorMod_7cf53 3 = .ok (.istore_n 2, 1) := by decide +kernel
theorem dJ9_floorMod_7cf53_4 : decode cJ9_floorMod_7cf53 4 = .ok (.iload_n 0, 1) := by decide +kernel
theorem dJ9_floorMod_7cf53_5 : decode cJ9_floorMod_7cf53 5 = .ok (.iload_n 1, 1) := by decide +kernel
theorem dJ9_floorMod_7cf53_6 : decode cJ9_floorMod_7cf53 6 = .ok (.ixor, 1) := by decide +kernel
theorem dJ9_floorMod_7cf53_7 : decode cJ9_floorMod_7cf53 7 = .ok (.ifCond .ge 11, 3) := by decide +kernel
theorem dJ9_floorMod_7cf53_10 : decode cJ9_floorMod_7cf53 10 = .ok (.iload_n 2, 1) := by decide +kernel
theorem dJ9_floorMod_7cf53_11 : decode cJ9_floorMod_7cf53 11 = .ok (.ifCond .eq 7, 3) := by decide +kernel
theorem dJ9_floorMod_7cf53_14 : decode cJ9_floorMod_7cf53 14 = .ok (.iload_n 2, 1) := by decide +kernel
theorem dJ9_floorMod_7cf53_15 : decode cJ9_floorMod_7cf53 15 = .ok (.iload_n 1, 1) := by decide +kernel
theorem dJ9_floorMod_7cf53_16 : decode cJ9_floorMod_7cf53 16 = .ok (.iadd, 1) := by decide +kernel
theorem dJ9_floorMod_7cf53_17 : decode cJ9_floorMod_7cf53 17 = .ok (.ireturn, 1) := by decide +kernel
theorem dJ9_floorMod_7cf53_18 : decode cJ9_floorMod_7cf53 18 = .ok (.iload_n 2, 1) := by decide +kernel
theorem dJ9_floorMod_7cf53_19 : decode cJ9_floorMod_7cf53 19 = .ok (.ireturn, 1) := by decide +kernel
theorem dJ9_abs_0f7a4_0 : decode cJ9_abs_0f7a4 0 = .ok (.iload_n 0, 1) := by decide +kernel
theorem dJ9_abs_0f7a4_1 : decode cJ9_abs_0f7a4 1 = .ok (.ifCond .ge 8, 3) := by decide +kernel
theorem dJ9_abs_0f7a4_4 : decode cJ9_abs_0f7a4 4 = .ok (.iload_n 0, 1) := by decide +kernel
theorem dJ9_abs_0f7a4_5 : decode cJ9_abs_0f7a4 5 = .ok (.ineg, 1) := by decide +kernel
theorem dJ9_abs_0f7a4_6 : decode cJ9_abs_0f7a4 6 = .ok (.goto 4, 3) := by decide +kernel
theorem dJ9_abs_0f7a4_9 : decode cJ9_abs_0f7a4 9 = .ok (.iload_n 0, 1) := by decide +kernel
theorem dJ9_abs_0f7a4_10 : decode cJ9_abs_0f7a4 10 = .ok (.ireturn, 1) := by decide +kernel
end
section
/-! worlds: the objects of the class, the reference and the law's two arrays, at the addresses z, z+1 .. -/
abbrev Sg : Type := Nat → Nat → Int32
def up (σ : Sg) (k j : Nat) (v : Int32) : Sg := fun a b => if a = k ∧ b = j then v else σ a b
theorem up_ne {σ : Sg} {k j a : Nat} {v : Int32} (h : a ≠ k) : up σ k j v a = σ a := funext fun b => by simp [up, h]
/-- the words of the tables that hold anywhere: every contract's list behind its own code -/
def WA : List Cond := lw_tbl.filter goodWord
theorem wa_good : ∀ w ∈ WA, goodWord w = true := fun _ h => (List.mem_filter.mp h).2
theorem wa_tbl : ∀ w ∈ WA, w ∈ lw_tbl := fun _ h => (List.mem_filter.mp h).1
theorem mA0 {i : Nat} {w : Cond} (h : (k2_sels lw_privs)[i]? = some w) (hg : goodWord w = true) : w ∈ WA := List.mem_filter.mpr ⟨List.mem_append_left _ (List.mem_of_getElem? h), hg⟩
theorem mA1 {i : Nat} {w : Cond} (h : tables_1_1[i]? = some w) (hg : goodWord w = true) : w ∈ WA := List.mem_filter.mpr ⟨List.mem_append_right _ (List.mem_append_left _ (List.mem_of_getElem? h)), hg⟩
theorem mA2 {i : Nat} {w : Cond} (h : tables_1_2[i]? = some w) (hg : goodWord w = true) : w ∈ WA := List.mem_filter.mpr ⟨List.mem_append_right _ (List.mem_append_right _ (List.mem_append_left _ (List.mem_of_getElem? h))), hg⟩
theorem mA3 {i : Nat} {w : Cond} (h : tables_1_3[i]? = some w) (hg : goodWord w = true) : w ∈ WA := List.mem_filter.mpr ⟨List.mem_append_right _ (List.mem_append_right _ (List.mem_append_right _ (List.mem_of_getElem? h))), hg⟩
theorem wa_app {ws : List Cond} {w0 : Cond} (hs : ∀ w ∈ ws, w ∈ WA) (h0 : w0 ∈ WA) : GoodIn WA (ws ++ (w0 :: WA)) := by
  intro w hw
  have hm : w ∈ WA := by
    rcases List.mem_append.mp hw with h | h
    · exact hs w h
    · rcases List.mem_cons.mp h with h | h
      · rw [h]; exact h0
      · exact h
  exact ⟨hm, good_of_word (wa_good w hm)⟩
theorem wa_cons {w0 : Cond} (h0 : w0 ∈ WA) : GoodIn WA (w0 :: WA) := wa_app (ws := []) (fun _ h => nomatch h) h0
def mwl (z n : Nat) (f : Nat → va_E) : va_W := (List.range n).map fun k => (z + k, f k)
theorem mwl_len {z n : Nat} {f : Nat → va_E} : (mwl z n f).length = n := by simp [mwl]
theorem mwl_at {z n : Nat} {f : Nat → va_E} {k : Nat} (h : k < n) : (mwl z n f)[k]? = some (z + k, f k) := by simp [mwl, h]
theorem mwl_of {z n : Nat} {f : Nat → va_E} {k : Nat} {q : Nat × va_E} (h : (mwl z n f)[k]? = some q) : k < n ∧ q = (z + k, f k) := by
  have hl := (List.getElem?_eq_some_iff.mp h).1
  rw [mwl_len] at hl
  rw [mwl_at hl] at h
  exact ⟨hl, (Option.some.inj h).symm⟩
theorem mwl_D {z n : Nat} {f : Nat → va_E} : va_D (fun q => z ≤ q) (mwl z n f) := by
  refine ⟨fun i j p q hi hj hpq => ?_, fun k q hk => ?_⟩
  · obtain ⟨-, rfl⟩ := mwl_of hi
    obtain ⟨-, rfl⟩ := mwl_of hj
    dsimp only at hpq
    omega
  · obtain ⟨-, rfl⟩ := mwl_of hk
    exact Nat.le_add_right _ _
theorem mwl_congr {z n : Nat} {f g : Nat → va_E} (h : ∀ k, k < n → f k = g k) : mwl z n f = mwl z n g := by
  apply List.ext_getElem?
  intro i
  by_cases hi : i < n
  · rw [mwl_at hi, mwl_at hi, h i hi]
  · rw [List.getElem?_eq_none (by rw [mwl_len]; omega), List.getElem?_eq_none (by rw [mwl_len]; omega)]
theorem mwl_set {z n : Nat} {f : Nat → va_E} {k : Nat} {e : va_E} : (mwl z n f).set k (z + k, e) = mwl z n (fun j => if j = k then e else f j) := by
  apply List.ext_getElem?
  intro i
  by_cases hi : i < n
  · rw [mwl_at hi]
    by_cases hk : k = i
    · subst hk
      rw [List.getElem?_set_self (by rw [mwl_len]; exact hi)]
      simp
    · rw [List.getElem?_set_ne hk, mwl_at hi, if_neg (Ne.symm hk)]
  · rw [List.getElem?_eq_none (by rw [List.length_set, mwl_len]; omega), List.getElem?_eq_none (by rw [mwl_len]; omega)]
/-- what stands at z + k: the number of its class, or 7 and on for arrays -/
abbrev chr (x : Int32) : Int32 := (x.toUInt32 % 65536).toInt32
def kd (k : Nat) : Nat :=
  if k = 0 then 5 else if k = 40 then 3 else if k = 93 then 2 else if k = 94 then 8 else if 95 ≤ k then 99
  else
    let r := (if k < 40 then k - 1 else k - 41) % 13
    if r = 0 then 0 else if (r - 1) % 3 = 0 then 4 else if (r - 1) % 3 = 1 then 1 else 7
theorem kd_lt {k : Nat} (h : kd k ≠ 99) : k < 95 := by
  apply Nat.lt_of_not_le
  intro hk
  apply h
  unfold kd
  rw [if_neg (by omega), if_neg (by omega), if_neg (by omega), if_neg (by omega), if_pos (by omega)]
def ent (z : Nat) (cy : Nat → ClassId) (σ τ : Sg) (o : Int64) (d : UInt64) (k : Nat) : va_E := match kd k with
  | 0 => .inr (0, [.ref (z + (k + 1)), .ref (z + (k + 4)), .ref (z + (k + 7)), .ref (z + (k + 10)), .int (σ k 4), .int (σ k 5)])
  | 1 => .inr (1, [.ref (z + (k + 1)), .int (σ k 1), .int (σ k 2)])
  | 2 => .inr (2, [.ref (z + (k + 1)), .int (σ k 1)])
  | 3 => .inr (3, [.ref (z + (k + 1)), .ref (z + (k + 14)), .ref (z + (k + 27)), .ref (z + (k + 40)), .int (σ k 4), .int (σ k 5)])
  | 4 => .inr (4, [.ref (z + (k + 1)), .int (σ k 1), .int (σ k 2), .int (σ k 3), .int (σ k 4), .int (σ k 5), .int (σ k 6), .int (σ k 7), .int (σ k 8), .int (σ k 9), .int (σ k 10), .int (σ k 11)])
  | 5 => .inr (5, [.ref (z + (k + 1)), .ref (z + (k + 14)), .ref (z + (k + 27)), .ref (z + (k + 40)), .ref (z + (k + 93)), .int (σ k 5)])
  | 7 => .inl (cy 0, 48, .inl (σ k))
  | 8 => .inl (cy 1, 80, .inl (fun i => chr (σ k i)))
  | _ => .inl (cy 0, 0, .inl (σ k))
theorem ent_0 {z : Nat} {cy : Nat → ClassId} {σ τ : Sg} {o : Int64} {d : UInt64} {k : Nat} (h : kd k = 0) : ent z cy σ τ o d k = .inr (0, [.ref (z + (k + 1)), .ref (z + (k + 4)), .ref (z + (k + 7)), .ref (z + (k + 10)), .int (σ k 4), .int (σ k 5)]) := by simp only [ent, h]
theorem ent_1 {z : Nat} {cy : Nat → ClassId} {σ τ : Sg} {o : Int64} {d : UInt64} {k : Nat} (h : kd k = 1) : ent z cy σ τ o d k = .inr (1, [.ref (z + (k + 1)), .int (σ k 1), .int (σ k 2)]) := by simp only [ent, h]
theorem ent_2 {z : Nat} {cy : Nat → ClassId} {σ τ : Sg} {o : Int64} {d : UInt64} {k : Nat} (h : kd k = 2) : ent z cy σ τ o d k = .inr (2, [.ref (z + (k + 1)), .int (σ k 1)]) := by simp only [ent, h]
theorem ent_3 {z : Nat} {cy : Nat → ClassId} {σ τ : Sg} {o : Int64} {d : UInt64} {k : Nat} (h : kd k = 3) : ent z cy σ τ o d k = .inr (3, [.ref (z + (k + 1)), .ref (z + (k + 14)), .ref (z + (k + 27)), .ref (z + (k + 40)), .int (σ k 4), .int (σ k 5)]) := by simp only [ent, h]
theorem ent_4 {z : Nat} {cy : Nat → ClassId} {σ τ : Sg} {o : Int64} {d : UInt64} {k : Nat} (h : kd k = 4) : ent z cy σ τ o d k = .inr (4, [.ref (z + (k + 1)), .int (σ k 1), .int (σ k 2), .int (σ k 3), .int (σ k 4), .int (σ k 5), .int (σ k 6), .int (σ k 7), .int (σ k 8), .int (σ k 9), .int (σ k 10), .int (σ k 11)]) := by simp only [ent, h]
theorem ent_5 {z : Nat} {cy : Nat → ClassId} {σ τ : Sg} {o : Int64} {d : UInt64} {k : Nat} (h : kd k = 5) : ent z cy σ τ o d k = .inr (5, [.ref (z + (k + 1)), .ref (z + (k + 14)), .ref (z + (k + 27)), .ref (z + (k + 40)), .ref (z + (k + 93)), .int (σ k 5)]) := by simp only [ent, h]
theorem ent_7 {z : Nat} {cy : Nat → ClassId} {σ τ : Sg} {o : Int64} {d : UInt64} {k : Nat} (h : kd k = 7) : ent z cy σ τ o d k = .inl (cy 0, 48, .inl (σ k)) := by simp only [ent, h]
theorem ent_8 {z : Nat} {cy : Nat → ClassId} {σ τ : Sg} {o : Int64} {d : UInt64} {k : Nat} (h : kd k = 8) : ent z cy σ τ o d k = .inl (cy 1, 80, .inl (fun i => chr (σ k i))) := by simp only [ent, h]
theorem ent_up_ne {z : Nat} {cy : Nat → ClassId} {σ τ : Sg} {o : Int64} {d : UInt64} {k f j : Nat} {v : Int32} (h : j ≠ k) : ent z cy (up σ k f v) τ o d j = ent z cy σ τ o d j := by
  unfold ent
  rw [up_ne h]
def tyc (cy : Nat → ClassId) : List (ClassId × FieldType) := [(cy 0, .int), (cy 1, .char)]
/-- the nest mates' words -/
def nestW : List Cond := [.fieldLinkNest RX5 154 RX4 "state" "I" "QuadSnail", .fieldLinkNest RX5 157 RX4 "countA" "I" "QuadSnail", .fieldLinkNest RX5 160 RX4 "countB" "I" "QuadSnail", .fieldLinkNest RX5 163 RX4 "errorSteps" "I" "QuadSnail", .fieldLinkNest RX5 166 RX4 "offAtMarks" "I" "QuadSnail", .fieldLinkNest RX5 175 RX4 "direction" "I" "QuadSnail", .fieldLinkNest RX5 181 RX4 "log" "LQuadSnail$Log;" "QuadSnail", .fieldLinkNest RX5 185 RX1 "length" "I" "QuadSnail", .fieldLinkNest RX5 200 RX4 "errors" "I" "QuadSnail", .fieldLinkNest RX5 203 RX4 "slips" "I" "QuadSnail", .fieldLinkNest RX5 206 RX4 "distance" "I" "QuadSnail", .fieldLinkNest RX5 209 RX4 "ticks" "I" "QuadSnail", .fieldLinkNest RX5 51 RX0 "rule" "I" "QuadSnail", .fieldLinkNest RX5 84 RX4 "position" "I" "QuadSnail", .fieldLinkNest RX5 87 RX0 "counts" "I" "QuadSnail", .fieldLinkNest RX4 49 RX1 "length" "I" "QuadSnail", .methodLinkNest RX5 24 yX3_init "QuadSnail", .methodLinkNest RX5 31 yX2_init "QuadSnail", .methodLinkNest RX5 9 yX0_init "QuadSnail", .methodLinkNest RX0 11 yX4_init "QuadSnail", .methodLinkNest RX3 11 yX0_init "QuadSnail", .methodLinkNest RX4 11 yX1_init "QuadSnail", .castable "java/lang/IndexOutOfBoundsException" "java/lang/IndexOutOfBoundsException", .castable "java/lang/IllegalArgumentException" "java/lang/IllegalArgumentException", .castable "java/lang/IllegalStateException" "java/lang/IllegalStateException", .declares ⟨"java/lang/RuntimeException", "<init>", "(Ljava/lang/String;)V"⟩, .declares ⟨"java/lang/Exception", "<init>", "(Ljava/lang/String;)V"⟩, .declares ⟨"java/lang/Throwable", "<init>", "(Ljava/lang/String;)V"⟩]
def isNest : Cond → Bool
  | .fieldLinkNest _ _ _ _ _ _ => true
  | .methodLinkNest _ _ _ _ => true
  | .castable _ _ => true
  | .declares _ => true
  | _ => false
theorem nestW_ok : nestW.all isNest = true := by decide +kernel
theorem nw_warm {w : Cond} {s U : State} (hn : isNest w = true) (hW : s.WarmedH U.vm) (h : va_Nw w s) : va_Nw w U := by
  cases w <;> first | (simp [isNest] at hn; done) | exact va_Nw.warmF hW h | exact va_Nw.warmM hW h | exact va_Nw.warmC hW h | exact va_Nw.warmD hW h
theorem nw_onT {w : Cond} (hn : isNest w = true) : w.onTables = true := by
  cases w <;> first | (simp [isNest] at hn; done) | rfl
def strW : List (Nat × String) := [(101, "the way back is not in the log, or too long"), (107, "no such rule"), (109, "no such counts"), (190, "no such log entry"), (212, "no such snail"), (214, "state out of range"), (220, "ticks or distance too great"), (46, "ticks out of range"), (79, "steps out of range"), (93, "feelings out of range")]
/-- what stays true of every state of a run: classes, tables, the two statics of Throwable -/
def Amb (D : va_G) (cy : Nat → ClassId) (z : Nat) (U : State) (H : Heap) : Prop :=
  va_K D vwCl (tyc cy) U ∧ (∀ w ∈ nestW, va_Nw w U) ∧ (∀ q ∈ strW, ∃ sa, vk_R RX5 q.1 q.2 sa U) ∧ vx_Zq Bundle.tN "UNASSIGNED_STACK" Bundle.steD (fun q => z ≤ q) U H ∧ vx_Zq Bundle.tN "SUPPRESSED_SENTINEL" Bundle.listD (fun q => z ≤ q) U H
theorem Amb.same {D : va_G} {cy : Nat → ClassId} {z : Nat} {u U : State} {H : Heap} (h : Amb D cy z u H) (hv : u.vm = U.vm) : Amb D cy z U H := by
  have ha : u.vm.Alike U.vm := by rw [hv]; exact Vm.Alike.refl U.vm
  obtain ⟨h1, h2, h3, h4, h5⟩ := h
  refine ⟨va_K.moved ha h1, fun w hw => va_Nw.same (nw_onT (List.all_eq_true.mp nestW_ok w hw)) hv (h2 w hw), fun q hq => ?_, h4.moved ha, h5.moved ha⟩
  obtain ⟨sa, h⟩ := h3 q hq
  exact ⟨sa, vk_R.same hv.symm h⟩
theorem Amb.warm {D : va_G} {cy : Nat → ClassId} {z : Nat} {s U : State} {H H1 : Heap} (h : Amb D cy z s H) (hW : s.WarmedH U.vm) (hq : ∀ a : Nat, a < H.size → ¬ (z ≤ a) → H1[a]? = H[a]?) : Amb D cy z U H1 := by
  have ha := hW.alike
  obtain ⟨h1, h2, h3, h4, h5⟩ := h
  refine ⟨va_K.moved ha h1, fun w hw => nw_warm (List.all_eq_true.mp nestW_ok w hw) hW (h2 w hw), fun q hq => ?_, (h4.moved ha).kept hq, (h5.moved ha).kept hq⟩
  obtain ⟨sa, h⟩ := h3 q hq
  exact ⟨sa, vk_R.warm hW h⟩
/-- the world -/
def WP (D : va_G) (cy : Nat → ClassId) (z : Nat) (σ τ : Sg) (o : Int64) (d : UInt64) (H : Heap) : Prop := va_P D vwCl (mwl z 95 (ent z cy σ τ o d)) H
theorem WP.put {D : va_G} {cy : Nat → ClassId} {z : Nat} {σ τ σ' τ' : Sg} {o o' : Int64} {d d' : UInt64} {H : Heap} {k : Nat} {e : va_E} (hP : va_P D vwCl ((mwl z 95 (ent z cy σ τ o d)).set k (z + k, e)) H)
    (he : e = ent z cy σ' τ' o' d' k) (hne : ∀ j, j ≠ k → ent z cy σ τ o d j = ent z cy σ' τ' o' d' j) : WP D cy z σ' τ' o' d' H := by
  rw [mwl_set] at hP
  unfold WP
  rw [← mwl_congr (f := fun j => if j = k then e else ent z cy σ τ o d j) (fun j _ => ?_)]
  · exact hP
  · by_cases hj : j = k
    · subst hj
      rw [if_pos rfl]
      exact he
    · rw [if_neg hj]
      exact hne j hj
theorem WP.put1 {D : va_G} {cy : Nat → ClassId} {z : Nat} {σ τ : Sg} {o : Int64} {d : UInt64} {H : Heap} {k j : Nat} {v : Int32} {e : va_E} (hP : va_P D vwCl ((mwl z 95 (ent z cy σ τ o d)).set k (z + k, e)) H)
    (he : e = ent z cy (up σ k j v) τ o d k) : WP D cy z (up σ k j v) τ o d H := WP.put hP he fun _ h => (ent_up_ne h).symm
/-- what a method's body has at hand -/
def Bd (p : Program) (s : State) (m : MethodId) (args : Array Value) (meth : Method) (c : Code) (cc : ByteArray) (nl : Nat) (rt : Option FieldType) (own : String) (D : va_G) (cy : Nat → ClassId) (z : Nat) : Prop :=
  p.tables.exec = Jvm.exec ∧ c.code = cc ∧ meth.sig.returnType = rt ∧ c.maxLocals = nl ∧ s.vm.findClass own = some m.cls ∧ (∀ w ∈ WA, w.before args s = true) ∧ meth.locks = false ∧ Amb D cy z s s.heap
def Pre (D : va_G) (cy : Nat → ClassId) (z : Nat) (As : List Value) (σ τ : Sg) (o : Int64) (d : UInt64) : Array Value → State → Prop := va_Pc As (fun U => WP D cy z σ τ o d U.heap ∧ Amb D cy z U U.heap)
theorem Pre.blind {D : va_G} {cy : Nat → ClassId} {z : Nat} {As : List Value} {σ τ : Sg} {o : Int64} {d : UInt64} : FrameBlind (Pre D cy z As σ τ o d) := by
  intro a U g mk h
  obtain ⟨h1, h2, h3⟩ := h
  exact ⟨h1, h2, h3.same (U := U.calling g mk a) rfl⟩
def PoI (D : va_G) (cy : Nat → ClassId) (z : Nat) (o : Int64) (d : UInt64) (r : Int32) (σ τ : Sg) : Array Value → State → Outcome → State → Prop := va_Qi (fun (x : Int32) (_ : Unit) => x = r) (fun _ U => WP D cy z σ τ o d U.heap) (fun q => z ≤ q)
def PoV (D : va_G) (cy : Nat → ClassId) (z : Nat) (o : Int64) (d : UInt64) (σ τ : Sg) : Array Value → State → Outcome → State → Prop := va_Qv (fun (_ : Unit) => True) (fun _ U => WP D cy z σ τ o d U.heap) (fun q => z ≤ q)
def PoR (D : va_G) (cy : Nat → ClassId) (z : Nat) (o : Int64) (d : UInt64) (r : Nat) (σ τ : Sg) : Array Value → State → Outcome → State → Prop := va_Qr (fun (_ : Unit) => True) (fun _ a U => a = z + r ∧ WP D cy z σ τ o d U.heap) (fun q => z ≤ q)
abbrev fz (z : Nat) : Addr → Prop := fun q => z ≤ q
/-- contracts: an answer that is an int, none, a cell of the world -/
def KI (l : Launch) (y : MethodName) (bc : ByteArray) (nl : Nat) (rt : Option FieldType) (rm : Room) (D : va_G) (cy : Nat → ClassId) (z : Nat) (As : List Value) (o : Int64) (d : UInt64) (σ τ : Sg) (r : Int32) (σ' τ' : Sg) : Prop :=
  Met l y (.code y bc nl rt :: WA) rm (Pre D cy z As σ τ o d) (PoI D cy z o d r σ' τ') 0 0 (fz z)
def KV (l : Launch) (y : MethodName) (bc : ByteArray) (nl : Nat) (rm : Room) (D : va_G) (cy : Nat → ClassId) (z : Nat) (As : List Value) (o : Int64) (d : UInt64) (σ τ : Sg) (σ' τ' : Sg) : Prop :=
  Met l y (.code y bc nl none :: WA) rm (Pre D cy z As σ τ o d) (PoV D cy z o d σ' τ') 0 0 (fz z)
def KR (l : Launch) (y : MethodName) (bc : ByteArray) (nl : Nat) (rt : Option FieldType) (rm : Room) (D : va_G) (cy : Nat → ClassId) (z : Nat) (As : List Value) (o : Int64) (d : UInt64) (σ τ : Sg) (r : Nat) (σ' τ' : Sg) : Prop :=
  Met l y (.code y bc nl rt :: WA) rm (Pre D cy z As σ τ o d) (PoR D cy z o d r σ' τ') 0 0 (fz z)
/-- a method that no entry of the machine's own runs instead -/
theorem met_body {l : Launch} {y : MethodName} {ws ws' : List Cond} {rm : Room} {Pc : Array Value → State → Prop} {Qc : Array Value → State → Outcome → State → Prop} {mc ms : Nat} {free : Addr → Prop} {cc : ByteArray} {maxL : Nat} {ret : Option FieldType}
    (hy : plainFor y = true) (hw : ws = Cond.code y cc maxL ret :: ws')
    (body : ∀ p e s m args below meth c s₁, BodyLoose p l y (headSpec ws rm) cc maxL ret e s m args below meth c s₁ → c.maxLocals = maxL → Pc args s → W p l e (headSpec ws rm).room s m args below meth c s.heap [] 0 0 (MQ below Qc args s mc ms free) (entryFrame m args maxL)) : Met l y ws rm Pc Qc mc ms free := by
  refine MetFree.of_bodySF (code := cc) (maxLocals := maxL) (ret := ret) hy ?_ ?_
  · intro args s m h hn
    obtain ⟨meth, c, h1, h2, h3, h4, h5, h6, -, -⟩ := Cond.code_spec hn (atoms_spec (ws := ws) h _ (by rw [hw]; exact List.mem_cons_self))
    exact ⟨meth, c, h1, h2, h3, h4, h5, h6⟩
  · intro p e s m args below meth c s₁ B hml hP _
    have hh0 : s₁.heap = s.heap := by rw [B.state]; rfl
    obtain ⟨t, a1, o, b1, b2, b3⟩ := body p e s m args below meth c s₁ B hml hP s₁ hh0 (Stand.of_body B)
    exact ⟨t, o, a1, b1, b2, ⟨b3.1, b3.2⟩⟩
/-- the frame of a proof: from the words to the walk -/
theorem met_of {l : Launch} {y : MethodName} {bc : ByteArray} {nl : Nat} {rt : Option FieldType} {rm : Room} {D : va_G} {cy : Nat → ClassId} {z : Nat} {As : List Value} {o : Int64} {d : UInt64} {σ τ : Sg} {Qc : Array Value → State → Outcome → State → Prop} (own : String) (hy : plainFor y = true) (ho : y.cls = own) (hn : (lg_sl As).length ≤ nl)
    (body : ∀ p e s m args below meth c, Bd p s m args meth c bc nl rt own D cy z → WP D cy z σ τ o d s.heap → va_S (fz z) s.heap s.heap [] → ∀ ls : Array Slot, lv_has ls nl (lv_args 0 As) → W p l e rm s m args below meth c s.heap [] 0 0 (MQ below Qc args s 0 0 (fz z)) (F0 m 0 ls [])) :
    Met l y (.code y bc nl rt :: WA) rm (Pre D cy z As σ τ o d) Qc 0 0 (fz z) := by
  refine met_body (cc := bc) (maxL := nl) (ret := rt) hy rfl ?_
  intro p e s m args below meth c s₁ B hml hv
  obtain ⟨rfl, hP, hAm⟩ := hv
  have hts := atoms_spec (ws := .code y bc nl rt :: WA) B.pre
  have hown : s.vm.findClass own = some m.cls := by rw [← ho]; exact findClass_of_methodNamed B.named
  rw [lg_entry_eq]
  exact body p e s m As.toArray below meth c ⟨B.exec, B.bytes, B.returns, hml, hown, fun w h => hts w (List.mem_cons_of_mem _ h), B.notSynchronized, hAm⟩ hP va_S.rf _ (lv_entry As hn)
end
section
theorem vpin_of {x : Int32} {n : Nat} {N : Int32} (h1 : ¬ x < 0) (h2 : ¬ N ≤ x) (hN : N.toInt = n) : vp_in x n := by
  rw [vp_in_iff]
  have a : 0 ≤ x.toInt := by
    have := Int32.not_lt.mp h1
    have := Int32.le_iff_toInt_le.mp this
    simpa using this
  have b : x.toInt < N.toInt := by
    have := Int32.not_le.mp h2
    exact Int32.lt_iff_toInt_lt.mp this
  exact ⟨a, by rw [← hN]; exact b⟩
theorem vpin_of' {x : Int32} {n : Nat} {N : Int32} (h1 : ¬ x < 0) (h2 : x < N) (hN : N.toInt = n) : vp_in x n := vpin_of h1 (Int32.not_le.mpr h2) hN
theorem cI_le {x y : Int32} {a b : Nat} (hx : x = nI a) (hy : y = nI b) (ha : a < 2 ^ 31) (hb : b < 2 ^ 31) : x ≤ y ↔ a ≤ b := by rw [hx, hy]; exact nI_leI ha hb
theorem cI_lt {x y : Int32} {a b : Nat} (hx : x = nI a) (hy : y = nI b) (ha : a < 2 ^ 31) (hb : b < 2 ^ 31) : x < y ↔ a < b := by rw [hx, hy]; exact nI_ltI ha hb
theorem cI_eq {x y : Int32} {a b : Nat} (hx : x = nI a) (hy : y = nI b) (ha : a < 2 ^ 31) (hb : b < 2 ^ 31) : x = y ↔ a = b := by rw [hx, hy]; exact nI_eq ha hb
/-- lengths: of a log (its cell), of the text -/
def Ln (σ : Sg) (k : Nat) : Nat := (σ k 2).toNatClampNeg
def TL (σ : Sg) (k : Nat) : Nat := (σ k 1).toNatClampNeg
def LGA (σ : Sg) : Prop := ∀ q, kd q = 1 → ∃ L : Nat, L ≤ 16 ∧ σ q 2 = nI L
def TXA (σ : Sg) : Prop := ∀ q, kd q = 2 → ∃ L : Nat, L ≤ 80 ∧ σ q 1 = nI L
theorem LGA.of {σ : Sg} (h : LGA σ) {k : Nat} (hk : kd k = 1) : σ k 2 = nI (Ln σ k) ∧ Ln σ k ≤ 16 := by
  obtain ⟨L, h1, h2⟩ := h k hk
  have : Ln σ k = L := by unfold Ln; rw [h2]; exact nI_clamp (by omega)
  rw [this]
  exact ⟨h2, h1⟩
theorem TXA.of {σ : Sg} (h : TXA σ) {k : Nat} (hk : kd k = 2) : σ k 1 = nI (TL σ k) ∧ TL σ k ≤ 80 := by
  obtain ⟨L, h1, h2⟩ := h k hk
  have : TL σ k = L := by unfold TL; rw [h2]; exact nI_clamp (by omega)
  rw [this]
  exact ⟨h2, h1⟩
theorem i32_nat (x : Int32) : x.toInt ≤ (x.toNatClampNeg : Int) ∧ (0 ≤ x.toInt → (x.toNatClampNeg : Int) = x.toInt) := by
  have h : x.toNatClampNeg = x.toInt.toNat := rfl
  rw [h]
  exact ⟨Int.self_le_toNat _, fun h => Int.toNat_of_nonneg h⟩
theorem cr_s {x : Int32} {L : Nat} (hx : -1000 ≤ x.toInt ∧ x.toInt ≤ 1000000) (hL : L ≤ 16) (h : x ≤ nI L) : (nI L - x).toInt = (L : Int) - x.toInt ∧ x.toInt ≤ L := by
  have h1 : (nI L).toInt = (L : Int) := nI_toInt (by omega)
  have h2 : x.toInt ≤ L := by rw [← h1]; exact Int32.le_iff_toInt_le.mp h
  refine ⟨?_, h2⟩
  rw [Int32.toInt_sub, h1]
  apply Int.bmod_eq_of_le <;> omega
theorem cr_a {x : Int32} {L : Nat} (hx : -1000 ≤ x.toInt ∧ x.toInt ≤ 1000000) (hL : L ≤ 16) (h : x ≤ nI L) : nI L - x = nI ((nI L - x).toNatClampNeg) := by
  obtain ⟨h1, h2⟩ := cr_s hx hL h
  have h3 := (i32_nat (nI L - x)).2 (by omega)
  apply Int32.toInt_inj.mp
  rw [nI_toInt (by omega), h3]
theorem cr_b {x : Int32} {L : Nat} (hx : -1000 ≤ x.toInt ∧ x.toInt ≤ 1000000) (hL : L ≤ 16) (h : x ≤ nI L) : (nI L - x).toNatClampNeg ≤ 1016 := by
  obtain ⟨h1, h2⟩ := cr_s hx hL h
  have h3 := (i32_nat (nI L - x)).2 (by omega)
  omega
theorem re_b {x : Int32} {i n : Nat} (h : ¬ x ≤ nI i) (hn : x.toInt ≤ 1000000 ∧ (i = 0 ∨ (i : Int) ≤ x.toInt) ∧ x.toInt + 1 ≤ (i : Int) + ((n + 1 : Nat) : Int) ∧ 1 ≤ n + 1) : x.toInt ≤ 1000000 ∧ (i + 1 = 0 ∨ ((i + 1 : Nat) : Int) ≤ x.toInt) ∧ x.toInt + 1 ≤ ((i + 1 : Nat) : Int) + (n : Int) ∧ 1 ≤ n := by
  have h1 : (nI i).toInt = (i : Int) := nI_toInt (by omega)
  have h2 : (i : Int) < x.toInt := by
    rw [← h1]
    exact Int32.lt_iff_toInt_lt.mp (Int32.not_le.mp h)
  omega
theorem ne0_lt1 {x : Int32} (h : ¬ x < 1) : ¬ x = 0 := fun e => h (by rw [e]; decide)
theorem ne0_le1 {x : Int32} (h : 1 ≤ x) : ¬ x = 0 := fun e => absurd h (by rw [e]; decide)
theorem nar_z1 : narrow .boolean (.int 1) = .int 1 := by decide
theorem nar_z0 : narrow .boolean (.int 0) = .int 0 := by decide
theorem nar_i (x : Int32) : narrow .int (.int x) = .int x := rfl
theorem nar_c (x : Int32) : narrow .char (.int (chr x)) = .int (chr x) := pk_nc x
theorem chr_nar (x : Int32) : vp_nar .char x = chr x := by simp [chr, vp_nar, narrow]
section Rows
variable {p : Program} {l : Launch} {e : Env} {Rm : Room} {s : State} {m : MethodId} {args : Array Value} {below : List Frame} {meth : Method} {c : Code} {H : Heap} {locs : List Loc} {cells slots : Nat} {Q : State → Prop}
variable {cc : ByteArray} {nl : Nat} {rt : Option FieldType} {own : String} {D : va_G} {cy : Nat → ClassId} {z : Nat} {σ τ σ' τ' : Sg} {o : Int64} {d : UInt64} {pc : Nat} {ls : Array Slot} {rest st : List Value}
/-- a field is read -/
theorem g_get (C : Bd p s m args meth c cc nl rt own D cy z) (hP : WP D cy z σ τ o d H) {k ci j idx N : Nat} {fs : List Value} {T : u_T} {R : String} {v : Value} (hk : kd k ≠ 99) (he : ent z cy σ τ o d k = .inr (ci, fs)) (hc : vwCl[ci]? = some (R, T, N)) (hin : ∀ w ∈ u_ws R T N, w ∈ WA) (hj : j < N) (hd1 : (T j).1 = R)
    (hl : Cond.fieldLink own idx R (T j).2.1 (T j).2.2.1 ∈ WA) (hv : fs[j]? = some v) (hdg : decode cc pc = .ok (.getfield idx, 3)) (kk : W p l e Rm s m args below meth c H locs cells slots Q (F0 m (pc + 3) ls (v :: rest))) : W p l e Rm s m args below meth c H locs cells slots Q (F0 m pc ls (.ref (z + k) :: rest)) := by
  obtain ⟨hx, hb, hr, hml, hown, hW, hlocks, hAm⟩ := C
  exact va_get (D := D) (ci := ci) (v := v) (C := R) (T := T) (N := N) hx hb hW hin hown hAm.1 hP k (by rw [mwl_at (kd_lt hk), he]) hc j hj (hW _ hl) (fun x h => by rw [hd1] at h; exact h) hv hdg kk
theorem g_getN (C : Bd p s m args meth c cc nl rt own D cy z) (hP : WP D cy z σ τ o d H) {k ci j idx N : Nat} {fs : List Value} {T : u_T} {R host : String} {v : Value} (hk : kd k ≠ 99) (he : ent z cy σ τ o d k = .inr (ci, fs)) (hc : vwCl[ci]? = some (R, T, N)) (hin : ∀ w ∈ u_ws R T N, w ∈ WA) (hj : j < N) (hd1 : (T j).1 = R)
    (hl : Cond.fieldLinkNest own idx R (T j).2.1 (T j).2.2.1 host ∈ nestW) (hv : fs[j]? = some v) (hdg : decode cc pc = .ok (.getfield idx, 3)) (kk : W p l e Rm s m args below meth c H locs cells slots Q (F0 m (pc + 3) ls (v :: rest))) : W p l e Rm s m args below meth c H locs cells slots Q (F0 m pc ls (.ref (z + k) :: rest)) := by
  obtain ⟨hx, hb, hr, hml, hown, hW, hlocks, hAm⟩ := C
  exact va_getN (D := D) (ci := ci) (v := v) (C := R) (T := T) (N := N) hx hb hW hin hown hAm.1 hP k (by rw [mwl_at (kd_lt hk), he]) hc j hj (va_Nw.use rfl (hAm.2.1 _ hl)) (fun x h => by rw [hd1] at h; exact h) hv hdg kk
/-- a field is written -/
theorem g_put (C : Bd p s m args meth c cc nl rt own D cy z) (hP : WP D cy z σ τ o d H) (hS : va_S (fz z) s.heap H locs) {k ci j idx N : Nat} {fs : List Value} {T : u_T} {R : String} {v : Value} {ty : FieldType} {ty0 : Nat → FieldType} (hk : kd k ≠ 99) (he : ent z cy σ τ o d k = .inr (ci, fs)) (hc : vwCl[ci]? = some (R, T, N)) (hin : ∀ w ∈ u_ws R T N, w ∈ WA) (hty : ∀ k, k < N → parseFieldDescriptor (T k).2.2.1 = some (ty0 k)) (hnm : ∀ a, a < N → ∀ b, b < N → a ≠ b → (T a).2.1 ≠ (T b).2.1) (hj : j < N) (hd1 : (T j).1 = R) (hfin : (T j).2.2.2 = false) (hd : parseFieldDescriptor (T j).2.2.1 = some ty) (hn : narrow ty v = v) (hfit : fits ty v = true)
    (hl : Cond.fieldLink own idx R (T j).2.1 (T j).2.2.1 ∈ WA) (hjl : j < fs.length) (hnew : (.inr (ci, fs.set j v) : va_E) = ent z cy σ' τ' o d k) (hne : ∀ i, i ≠ k → ent z cy σ τ o d i = ent z cy σ' τ' o d i) (hdg : decode cc pc = .ok (.putfield idx, 3))
    (kk : ∀ (H1 : Heap) (locs1 : List Loc), WP D cy z σ' τ' o d H1 → va_S (fz z) s.heap H1 locs1 → W p l e Rm s m args below meth c H1 locs1 cells slots Q (F0 m (pc + 3) ls rest)) : W p l e Rm s m args below meth c H locs cells slots Q (F0 m pc ls (v :: .ref (z + k) :: rest)) := by
  obtain ⟨hx, hb, hr, hml, hown, hW, hlocks, hAm⟩ := C
  exact va_put (D := D) (ci := ci) (v := v) (ty := ty) (C := R) (T := T) (N := N) hx hb hW hin ty0 hty hnm hown hAm.1 hP mwl_D hS k (by rw [mwl_at (kd_lt hk), he]) hc j hj (hW _ hl) (fun x h => by rw [hd1] at h; exact h) hfin hd hn hfit hjl hdg (fun H1 locs1 hP1 _ hS1 => kk H1 locs1 (WP.put hP1 hnew hne) hS1)
theorem g_putN (C : Bd p s m args meth c cc nl rt own D cy z) (hP : WP D cy z σ τ o d H) (hS : va_S (fz z) s.heap H locs) {k ci j idx N : Nat} {fs : List Value} {T : u_T} {R host : String} {v : Value} {ty : FieldType} {ty0 : Nat → FieldType} (hk : kd k ≠ 99) (he : ent z cy σ τ o d k = .inr (ci, fs)) (hc : vwCl[ci]? = some (R, T, N)) (hin : ∀ w ∈ u_ws R T N, w ∈ WA) (hty : ∀ k, k < N → parseFieldDescriptor (T k).2.2.1 = some (ty0 k)) (hnm : ∀ a, a < N → ∀ b, b < N → a ≠ b → (T a).2.1 ≠ (T b).2.1) (hj : j < N) (hd1 : (T j).1 = R) (hfin : (T j).2.2.2 = false) (hd : parseFieldDescriptor (T j).2.2.1 = some ty) (hn : narrow ty v = v) (hfit : fits ty v = true)
    (hl : Cond.fieldLinkNest own idx R (T j).2.1 (T j).2.2.1 host ∈ nestW) (hjl : j < fs.length) (hnew : (.inr (ci, fs.set j v) : va_E) = ent z cy σ' τ' o d k) (hne : ∀ i, i ≠ k → ent z cy σ τ o d i = ent z cy σ' τ' o d i) (hdg : decode cc pc = .ok (.putfield idx, 3))
    (kk : ∀ (H1 : Heap) (locs1 : List Loc), WP D cy z σ' τ' o d H1 → va_S (fz z) s.heap H1 locs1 → W p l e Rm s m args below meth c H1 locs1 cells slots Q (F0 m (pc + 3) ls rest)) : W p l e Rm s m args below meth c H locs cells slots Q (F0 m pc ls (v :: .ref (z + k) :: rest)) := by
  obtain ⟨hx, hb, hr, hml, hown, hW, hlocks, hAm⟩ := C
  exact va_putN (D := D) (ci := ci) (v := v) (ty := ty) (C := R) (T := T) (N := N) hx hb hW hin ty0 hty hnm hown hAm.1 hP mwl_D hS k (by rw [mwl_at (kd_lt hk), he]) hc j hj (va_Nw.use rfl (hAm.2.1 _ hl)) (fun x h => by rw [hd1] at h; exact h) hfin hd hn hfit hjl hdg (fun H1 locs1 hP1 _ hS1 => kk H1 locs1 (WP.put hP1 hnew hne) hS1)
/-- arrays of ints: read, written, measured -/
theorem g_iald (C : Bd p s m args meth c cc nl rt own D cy z) (hP : WP D cy z σ τ o d H) {k n : Nat} {f : Nat → Int32} {i : Int32} (hk : kd k ≠ 99) (he : ent z cy σ τ o d k = .inl (cy 0, n, .inl f)) (hin : vp_in i n) (hdg : decode cc pc = .ok (.iaload, 1)) (kk : W p l e Rm s m args below meth c H locs cells slots Q (F0 m (pc + 1) ls (.int (f i.toNatClampNeg) :: rest))) : W p l e Rm s m args below meth c H locs cells slots Q (F0 m pc ls (.int i :: .ref (z + k) :: rest)) := by
  obtain ⟨hx, hb, hr, hml, hown, hW, hlocks, hAm⟩ := C
  exact va_iald hx hb hAm.1 hP k 0 (by rw [mwl_at (kd_lt hk), he]) rfl hin hdg kk
theorem g_cald (C : Bd p s m args meth c cc nl rt own D cy z) (hP : WP D cy z σ τ o d H) {k n : Nat} {f : Nat → Int32} {i : Int32} (hk : kd k ≠ 99) (he : ent z cy σ τ o d k = .inl (cy 1, n, .inl f)) (hin : vp_in i n) (hdg : decode cc pc = .ok (.caload, 1)) (kk : W p l e Rm s m args below meth c H locs cells slots Q (F0 m (pc + 1) ls (.int (f i.toNatClampNeg) :: rest))) : W p l e Rm s m args below meth c H locs cells slots Q (F0 m pc ls (.int i :: .ref (z + k) :: rest)) := by
  obtain ⟨hx, hb, hr, hml, hown, hW, hlocks, hAm⟩ := C
  exact va_cald hx hb hAm.1 hP k 1 (by rw [mwl_at (kd_lt hk), he]) rfl hin hdg kk
theorem g_iast (C : Bd p s m args meth c cc nl rt own D cy z) (hP : WP D cy z σ τ o d H) (hS : va_S (fz z) s.heap H locs) {k n : Nat} {f : Nat → Int32} {i x : Int32} (hk : kd k ≠ 99) (he : ent z cy σ τ o d k = .inl (cy 0, n, .inl f)) (hin : vp_in i n) (hnew : (.inl (cy 0, n, .inl (upd f i.toNatClampNeg x)) : va_E) = ent z cy σ' τ' o d k) (hne : ∀ i, i ≠ k → ent z cy σ τ o d i = ent z cy σ' τ' o d i) (hdg : decode cc pc = .ok (.iastore, 1))
    (kk : ∀ (H1 : Heap) (locs1 : List Loc), WP D cy z σ' τ' o d H1 → va_S (fz z) s.heap H1 locs1 → W p l e Rm s m args below meth c H1 locs1 cells slots Q (F0 m (pc + 1) ls rest)) : W p l e Rm s m args below meth c H locs cells slots Q (F0 m pc ls (.int x :: .int i :: .ref (z + k) :: rest)) := by
  obtain ⟨hx, hb, hr, hml, hown, hW, hlocks, hAm⟩ := C
  exact va_iast hx hb hAm.1 hP mwl_D hS k 0 (by rw [mwl_at (kd_lt hk), he]) rfl hin hdg (fun H1 locs1 hP1 _ hS1 => kk H1 locs1 (WP.put hP1 hnew hne) hS1)
theorem g_cast (C : Bd p s m args meth c cc nl rt own D cy z) (hP : WP D cy z σ τ o d H) (hS : va_S (fz z) s.heap H locs) {k n : Nat} {f : Nat → Int32} {i x : Int32} (hk : kd k ≠ 99) (he : ent z cy σ τ o d k = .inl (cy 1, n, .inl f)) (hin : vp_in i n) (hnew : (.inl (cy 1, n, .inl (upd f i.toNatClampNeg (vp_nar .char x))) : va_E) = ent z cy σ' τ' o d k) (hne : ∀ i, i ≠ k → ent z cy σ τ o d i = ent z cy σ' τ' o d i) (hdg : decode cc pc = .ok (.castore, 1))
    (kk : ∀ (H1 : Heap) (locs1 : List Loc), WP D cy z σ' τ' o d H1 → va_S (fz z) s.heap H1 locs1 → W p l e Rm s m args below meth c H1 locs1 cells slots Q (F0 m (pc + 1) ls rest)) : W p l e Rm s m args below meth c H locs cells slots Q (F0 m pc ls (.int x :: .int i :: .ref (z + k) :: rest)) := by
  obtain ⟨hx, hb, hr, hml, hown, hW, hlocks, hAm⟩ := C
  exact va_cast hx hb hAm.1 hP mwl_D hS k 1 (by rw [mwl_at (kd_lt hk), he]) rfl hin hdg (fun H1 locs1 hP1 _ hS1 => kk H1 locs1 (WP.put hP1 hnew hne) hS1)
theorem g_alen (C : Bd p s m args meth c cc nl rt own D cy z) (hP : WP D cy z σ τ o d H) {k t0 : Nat} {cA : ClassId} {x : vp_A} {ty : FieldType} {v : Int32} (hk : kd k ≠ 99) (he : ent z cy σ τ o d k = .inl (cA, x)) (ht : (tyc cy)[t0]? = some (cA, ty)) (hv : Int32.ofNat x.1 = v) (hdg : decode cc pc = .ok (.arraylength, 1)) (kk : W p l e Rm s m args below meth c H locs cells slots Q (F0 m (pc + 1) ls (.int v :: rest))) : W p l e Rm s m args below meth c H locs cells slots Q (F0 m pc ls (.ref (z + k) :: rest)) := by
  obtain ⟨hx, hb, hr, hml, hown, hW, hlocks, hAm⟩ := C
  exact va_alen hx hb hAm.1 hP k t0 (by rw [mwl_at (kd_lt hk), he]) ht hv hdg kk
/-- the end of a method -/
theorem ret_I (C : Bd p s m args meth c cc nl rt own D cy z) {r v : Int32} {σe τe : Sg} {ty : FieldType} (hP : WP D cy z σe τe o d H) (hS : va_S (fz z) s.heap H locs) (hn : narrow ty (.int v) = .int v) (hrt : rt = some ty) (hv : v = r) (hσ : σe = σ') (hτ : τe = τ') (hdg : decode cc pc = .ok (.ireturn, 1)) :
    W p l e Rm s m args below meth c H locs cells slots (MQ below (PoI D cy z o d r σ' τ') args s cells slots (fz z)) (F0 m pc ls [.int v]) := by
  obtain ⟨hx, hb, hr, hml, hown, hW, hlocks, hAm⟩ := C
  subst hσ
  subst hτ
  exact W.zret (ty := ty) hx hb (by rw [hr, hrt]) hn (fun t ht hW => ⟨⟨v, (), rfl, hv, by show WP D cy z σe τe o d t.heap; rw [ht]; exact hP⟩, hS.F ht⟩) hS.2.2 hdg hlocks
theorem ret_V (C : Bd p s m args meth c cc nl none own D cy z) {σe τe : Sg} (hP : WP D cy z σe τe o d H) (hS : va_S (fz z) s.heap H locs) (hσ : σe = σ') (hτ : τe = τ') (hdg : decode cc pc = .ok (.return_, 1)) :
    W p l e Rm s m args below meth c H locs cells slots (MQ below (PoV D cy z o d σ' τ') args s cells slots (fz z)) (F0 m pc ls []) := by
  obtain ⟨hx, hb, hr, hml, hown, hW, hlocks, hAm⟩ := C
  subst hσ
  subst hτ
  exact W.vret hx hb hr (fun t ht hW => ⟨⟨(), rfl, trivial, by show WP D cy z σe τe o d t.heap; rw [ht]; exact hP⟩, hS.F ht⟩) hS.2.2 hdg hlocks
theorem ret_R (C : Bd p s m args meth c cc nl rt own D cy z) {r v : Nat} {σe τe : Sg} {nm : String} (hP : WP D cy z σe τe o d H) (hS : va_S (fz z) s.heap H locs) (hrt : rt = some (.object nm)) (hv : v = r) (hσ : σe = σ') (hτ : τe = τ') (hdg : decode cc pc = .ok (.areturn, 1)) :
    W p l e Rm s m args below meth c H locs cells slots (MQ below (PoR D cy z o d r σ' τ') args s cells slots (fz z)) (F0 m pc ls [.ref (z + v)]) := by
  obtain ⟨hx, hb, hr, hml, hown, hW, hlocks, hAm⟩ := C
  subst hσ
  subst hτ
  subst hv
  exact W.aret (rt := .object nm) hx hb (by rw [hr, hrt]) (Or.inl ⟨_, rfl⟩) (Or.inr ⟨_, rfl⟩) (fun t ht hW => ⟨⟨(), _, rfl, trivial, rfl, by show WP D cy z σe τe o d t.heap; rw [ht]; exact hP⟩, hS.F ht⟩) hS.2.2 hdg hlocks
/-- calls -/
abbrev yOK (y : MethodName) (n : Nat) : Prop := y.cls ≠ "java/lang/invoke/MethodHandle" ∧ y.cls ≠ "java/lang/invoke/VarHandle" ∧ (parseMethodDescriptor y.desc).map (fun d => d.parameters.length) = some n
abbrev cwVt (y : MethodName) (bc : ByteArray) (nl : Nat) (rt : Option FieldType) (ci n : Nat) : Prop := Cond.instanceMethod y ∈ WA ∧ Cond.selects y.cls y y ∈ WA ∧ Cond.initialized y.cls ∈ WA ∧ Cond.code y bc nl rt ∈ WA ∧ yOK y n ∧ (∃ q : vw_C, vwCl[ci]? = some q ∧ q.1 = y.cls) ∧ ci ≤ 5
abbrev cwSt (y : MethodName) (bc : ByteArray) (nl : Nat) (rt : Option FieldType) (n : Nat) : Prop := Cond.static y ∈ WA ∧ Cond.initialized y.cls ∈ WA ∧ Cond.code y bc nl rt ∈ WA ∧ yOK y n
theorem ent_obj {k ci : Nat} (h : kd k = ci) (h6 : ci ≤ 5) : ∃ fs, ent z cy σ τ o d k = .inr (ci, fs) := by
  have : ci = 0 ∨ ci = 1 ∨ ci = 2 ∨ ci = 3 ∨ ci = 4 ∨ ci = 5 := by omega
  rcases this with rfl | rfl | rfl | rfl | rfl | rfl
  · exact ⟨_, ent_0 h⟩
  · exact ⟨_, ent_1 h⟩
  · exact ⟨_, ent_2 h⟩
  · exact ⟨_, ent_3 h⟩
  · exact ⟨_, ent_4 h⟩
  · exact ⟨_, ent_5 h⟩
theorem run_V (C : Bd p s m args meth c cc nl rt own D cy z) {y : MethodName} {bc : ByteArray} {nl' : Nat} {rt' : Option FieldType} {rm : Room} {As : List Value} {Qc : Array Value → State → Outcome → State → Prop} {kr ci idx : Nat}
    (hM : Met l y (.code y bc nl' rt' :: WA) rm (Pre D cy z (.ref (z + kr) :: As) σ τ o d) Qc 0 0 (fz z)) (hP : WP D cy z σ τ o d H) (hS : va_S (fz z) s.heap H locs) (cw : cwVt y bc nl' rt' ci As.length) (ml : Cond.methodLink own idx y ∈ WA) (hk : kd kr = ci) (h0 : rm.cells = 0 ∧ rm.slots = 0)
    (hR : rm.frames + 1 ≤ Rm.frames ∧ 8 + (nl' + 11) + rm.locals ≤ Rm.locals) (hst : st = As.reverse ++ .ref (z + kr) :: rest) (hrest : (rest.map fun v => v.category).sum ≤ 8) (hsz : ls.size = nl) (hcs : cells ≤ Rm.cells ∧ slots ≤ Rm.slots) (hdg : decode cc pc = .ok (.invokevirtual idx, 3)) :
    va_Run p l e Rm s m args below meth c H locs cells slots 0 0 (F0 m pc ls st) rest (Qc (Value.ref (z + kr) :: As).toArray) (fz z) := by
  obtain ⟨hx, hb, hr, hml, hown, hW, hlocks, hAm⟩ := C
  obtain ⟨w1, w2, w3, w4, ⟨hy1, hy2, hy3⟩, ⟨q, hq1, hq2⟩, h6⟩ := cw
  obtain ⟨fs, he⟩ := ent_obj (z := z) (cy := cy) (σ := σ) (τ := τ) (o := o) (d := d) hk h6
  have hrecv : ∃ cell : Cell, H[z + kr]? = some cell ∧ cell.vm.isStatics = false ∧ s.vm.findClass y.cls = some cell.cls := by
    rw [← hq2]
    exact va_recv hAm.1 hP (ci := ci) (q0 := kr) hq1 (by rw [mwl_at (kd_lt (by omega)), he])
  exact va_runV (As := As) (rest := rest) ⟨hx, hb, hml, hown, hW⟩ hM (cwV (C := y.cls) As.length hW (wa_app (ws := [.methodLink own idx y, .instanceMethod y, .selects y.cls y y, .initialized y.cls]) (by
    intro w hw
    simp only [List.mem_cons, List.not_mem_nil, or_false] at hw
    rcases hw with rfl | rfl | rfl | rfl <;> assumption) w4) rfl h0.1 h0.2 ⟨rfl, hy1, hy2, hy3⟩ hR)
    ⟨Pre.blind, hrecv, fun U hU hW' => ⟨rfl, by rw [hU]; exact hP, hAm.warm hW' (by rw [hU]; exact hS.2.1)⟩⟩ rfl rfl hsz hst (lv_room hrest) hdg hcs
theorem run_S (C : Bd p s m args meth c cc nl rt own D cy z) {y : MethodName} {bc : ByteArray} {nl' : Nat} {rt' : Option FieldType} {rm : Room} {As : List Value} {Qc : Array Value → State → Outcome → State → Prop} {idx : Nat}
    (hM : Met l y (.code y bc nl' rt' :: WA) rm (Pre D cy z As σ τ o d) Qc 0 0 (fz z)) (hP : WP D cy z σ τ o d H) (hS : va_S (fz z) s.heap H locs) (cw : cwSt y bc nl' rt' As.length) (ml : Cond.methodLink own idx y ∈ WA) (h0 : rm.cells = 0 ∧ rm.slots = 0)
    (hR : rm.frames + 1 ≤ Rm.frames ∧ 8 + (nl' + 11) + rm.locals ≤ Rm.locals) (hst : st = As.reverse ++ rest) (hrest : (rest.map fun v => v.category).sum ≤ 8) (hsz : ls.size = nl) (hcs : cells ≤ Rm.cells ∧ slots ≤ Rm.slots) (hdg : decode cc pc = .ok (.invokestatic idx, 3)) :
    va_Run p l e Rm s m args below meth c H locs cells slots 0 0 (F0 m pc ls st) rest (Qc As.toArray) (fz z) := by
  obtain ⟨hx, hb, hr, hml, hown, hW, hlocks, hAm⟩ := C
  obtain ⟨w1, w3, w4, hy1, hy2, hy3⟩ := cw
  exact va_runS (As := As) (rest := rest) ⟨hx, hb, hml, hown, hW⟩ hM (va_cwS As.length hW (wa_app (ws := [.methodLink own idx y, .static y, .initialized y.cls]) (by
    intro w hw
    simp only [List.mem_cons, List.not_mem_nil, or_false] at hw
    rcases hw with rfl | rfl | rfl <;> assumption) w4) rfl h0.1 h0.2 ⟨hy1, hy2, hy3⟩ hR)
    ⟨Pre.blind, fun U hU hW' => ⟨rfl, by rw [hU]; exact hP, hAm.warm hW' (by rw [hU]; exact hS.2.1)⟩⟩ rfl rfl hsz hst (lv_room hrest) hdg hcs
theorem thn_I {st0 : List Value} {a : Array Value} {r : Int32} (hr : va_Run p l e Rm s m args below meth c H locs cells slots 0 0 (F0 m pc ls st0) rest (PoI D cy z o d r σ' τ' a) (fz z)) (hS : va_S (fz z) s.heap H locs)
    (kk : ∀ (H1 : Heap) (locs1 : List Loc), WP D cy z σ' τ' o d H1 → va_S (fz z) s.heap H1 locs1 → W p l e Rm s m args below meth c H1 locs1 cells slots Q (F0 m (pc + 3) ls (.int r :: rest))) : W p l e Rm s m args below meth c H locs cells slots Q (F0 m pc ls st0) :=
  va_calli hr hS (fun _ _ h => h) (fun _ h => h) (fun r1 u t H1 locs1 ht hvm hpost hB hz hk1 hS1 => by
    subst hpost
    rw [ht] at hB
    exact kk H1 locs1 hB hS1)
theorem thn_V {st0 : List Value} {a : Array Value} (hr : va_Run p l e Rm s m args below meth c H locs cells slots 0 0 (F0 m pc ls st0) rest (PoV D cy z o d σ' τ' a) (fz z)) (hS : va_S (fz z) s.heap H locs)
    (kk : ∀ (H1 : Heap) (locs1 : List Loc), WP D cy z σ' τ' o d H1 → va_S (fz z) s.heap H1 locs1 → W p l e Rm s m args below meth c H1 locs1 cells slots Q (F0 m (pc + 3) ls rest)) : W p l e Rm s m args below meth c H locs cells slots Q (F0 m pc ls st0) :=
  va_callv hr hS (fun _ _ h => h) (fun _ h => h) (fun u t H1 locs1 ht hvm hpost hB hz hk1 hS1 => by
    rw [ht] at hB
    exact kk H1 locs1 hB hS1)
theorem thn_R {st0 : List Value} {a : Array Value} {r : Nat} (hr : va_Run p l e Rm s m args below meth c H locs cells slots 0 0 (F0 m pc ls st0) rest (PoR D cy z o d r σ' τ' a) (fz z)) (hS : va_S (fz z) s.heap H locs)
    (kk : ∀ (H1 : Heap) (locs1 : List Loc), WP D cy z σ' τ' o d H1 → va_S (fz z) s.heap H1 locs1 → W p l e Rm s m args below meth c H1 locs1 cells slots Q (F0 m (pc + 3) ls (.ref (z + r) :: rest))) : W p l e Rm s m args below meth c H locs cells slots Q (F0 m pc ls st0) :=
  va_callr hr hS (fun _ _ h => h) (fun _ h => h) (fun u ra t H1 locs1 ht hvm hpost hB hz hk1 hS1 => by
    obtain ⟨rfl, hB⟩ := hB
    rw [ht] at hB
    exact kk H1 locs1 hB hS1)
end Rows
end
section
abbrev ab (x : Int32) : Int32 := if 0 ≤ x then x else 0 - x
theorem tab_out3 {x : Int32} (h0 : ¬ x.toInt = 0) (h1 : ¬ x.toInt = 1) (h2 : ¬ x.toInt = 2) : x.toInt < 0 ∨ 2 < x.toInt := by omega
theorem tab_out3b {x : Int32} (h0 : ¬ x.toInt = 1) (h1 : ¬ x.toInt = 2) (h2 : ¬ x.toInt = 3) : x.toInt < 1 ∨ 3 < x.toInt := by omega
theorem tab_out6 {x : Int32} (h0 : ¬ x.toInt = 0) (h1 : ¬ x.toInt = 1) (h2 : ¬ x.toInt = 2) (h3 : ¬ x.toInt = 3) (h4 : ¬ x.toInt = 4) (h5 : ¬ x.toInt = 5) : x.toInt < 0 ∨ 5 < x.toInt := by omega
theorem inWX0 : ∀ w ∈ u_ws RX0 TX0 6, w ∈ WA := by
  show ∀ w ∈ [u_lay RX0 TX0 0, u_lay RX0 TX0 1, u_lay RX0 TX0 2, u_lay RX0 TX0 3, u_lay RX0 TX0 4, u_lay RX0 TX0 5], w ∈ WA
  exact (List.forall_mem_cons.mpr ⟨(mA1 (i := 110) rfl rfl), (List.forall_mem_cons.mpr ⟨(mA1 (i := 112) rfl rfl), (List.forall_mem_cons.mpr ⟨(mA1 (i := 114) rfl rfl), (List.forall_mem_cons.mpr ⟨(mA1 (i := 116) rfl rfl), (List.forall_mem_cons.mpr ⟨(mA1 (i := 118) rfl rfl), (List.forall_mem_cons.mpr ⟨(mA1 (i := 120) rfl rfl), (fun _ h => absurd h List.not_mem_nil)⟩)⟩)⟩)⟩)⟩)⟩)
theorem inWX1 : ∀ w ∈ u_ws RX1 TX1 3, w ∈ WA := by
  show ∀ w ∈ [u_lay RX1 TX1 0, u_lay RX1 TX1 1, u_lay RX1 TX1 2], w ∈ WA
  exact (List.forall_mem_cons.mpr ⟨(mA1 (i := 45) rfl rfl), (List.forall_mem_cons.mpr ⟨(mA1 (i := 47) rfl rfl), (List.forall_mem_cons.mpr ⟨(mA1 (i := 49) rfl rfl), (fun _ h => absurd h List.not_mem_nil)⟩)⟩)⟩)
theorem inWX2 : ∀ w ∈ u_ws RX2 TX2 2, w ∈ WA := by
  show ∀ w ∈ [u_lay RX2 TX2 0, u_lay RX2 TX2 1], w ∈ WA
  exact (List.forall_mem_cons.mpr ⟨(mA1 (i := 157) rfl rfl), (List.forall_mem_cons.mpr ⟨(mA1 (i := 159) rfl rfl), (fun _ h => absurd h List.not_mem_nil)⟩)⟩)
theorem inWX3 : ∀ w ∈ u_ws RX3 TX3 6, w ∈ WA := by
  show ∀ w ∈ [u_lay RX3 TX3 0, u_lay RX3 TX3 1, u_lay RX3 TX3 2, u_lay RX3 TX3 3, u_lay RX3 TX3 4, u_lay RX3 TX3 5], w ∈ WA
  exact (List.forall_mem_cons.mpr ⟨(mA1 (i := 137) rfl rfl), (List.forall_mem_cons.mpr ⟨(mA1 (i := 139) rfl rfl), (List.forall_mem_cons.mpr ⟨(mA1 (i := 141) rfl rfl), (List.forall_mem_cons.mpr ⟨(mA1 (i := 143) rfl rfl), (List.forall_mem_cons.mpr ⟨(mA1 (i := 145) rfl rfl), (List.forall_mem_cons.mpr ⟨(mA1 (i := 147) rfl rfl), (fun _ h => absurd h List.not_mem_nil)⟩)⟩)⟩)⟩)⟩)⟩)
theorem inWX4 : ∀ w ∈ u_ws RX4 TX4 12, w ∈ WA := by
  show ∀ w ∈ [u_lay RX4 TX4 0, u_lay RX4 TX4 1, u_lay RX4 TX4 2, u_lay RX4 TX4 3, u_lay RX4 TX4 4, u_lay RX4 TX4 5, u_lay RX4 TX4 6, u_lay RX4 TX4 7, u_lay RX4 TX4 8, u_lay RX4 TX4 9, u_lay RX4 TX4 10, u_lay RX4 TX4 11], w ∈ WA
  exact (List.forall_mem_cons.mpr ⟨(mA1 (i := 77) rfl rfl), (List.forall_mem_cons.mpr ⟨(mA1 (i := 79) rfl rfl), (List.forall_mem_cons.mpr ⟨(mA1 (i := 81) rfl rfl), (List.forall_mem_cons.mpr ⟨(mA1 (i := 83) rfl rfl), (List.forall_mem_cons.mpr ⟨(mA1 (i := 85) rfl rfl), (List.forall_mem_cons.mpr ⟨(mA1 (i := 87) rfl rfl), (List.forall_mem_cons.mpr ⟨(mA1 (i := 89) rfl rfl), (List.forall_mem_cons.mpr ⟨(mA1 (i := 91) rfl rfl), (List.forall_mem_cons.mpr ⟨(mA1 (i := 93) rfl rfl), (List.forall_mem_cons.mpr ⟨(mA1 (i := 95) rfl rfl), (List.forall_mem_cons.mpr ⟨(mA1 (i := 97) rfl rfl), (List.forall_mem_cons.mpr ⟨(mA1 (i := 99) rfl rfl), (fun _ h => absurd h List.not_mem_nil)⟩)⟩)⟩)⟩)⟩)⟩)⟩)⟩)⟩)⟩)⟩)⟩)
theorem inWX5 : ∀ w ∈ u_ws RX5 TX5 6, w ∈ WA := by
  show ∀ w ∈ [u_lay RX5 TX5 0, u_lay RX5 TX5 1, u_lay RX5 TX5 2, u_lay RX5 TX5 3, u_lay RX5 TX5 4, u_lay RX5 TX5 5], w ∈ WA
  exact (List.forall_mem_cons.mpr ⟨(mA1 (i := 168) rfl rfl), (List.forall_mem_cons.mpr ⟨(mA1 (i := 170) rfl rfl), (List.forall_mem_cons.mpr ⟨(mA1 (i := 172) rfl rfl), (List.forall_mem_cons.mpr ⟨(mA1 (i := 174) rfl rfl), (List.forall_mem_cons.mpr ⟨(mA1 (i := 176) rfl rfl), (List.forall_mem_cons.mpr ⟨(mA1 (i := 178) rfl rfl), (fun _ h => absurd h List.not_mem_nil)⟩)⟩)⟩)⟩)⟩)⟩)
theorem kd0_1 {k : Nat} (h : kd k = 0) : kd (k + 1) = 4 := by
  have key : ∀ k, k < 95 → kd k = 0 → kd (k + 1) = 4 := by decide +kernel
  exact key k (kd_lt (by rw [h]; decide)) h
theorem kd0_4 {k : Nat} (h : kd k = 0) : kd (k + 4) = 4 := by
  have key : ∀ k, k < 95 → kd k = 0 → kd (k + 4) = 4 := by decide +kernel
  exact key k (kd_lt (by rw [h]; decide)) h
theorem kd0_7 {k : Nat} (h : kd k = 0) : kd (k + 7) = 4 := by
  have key : ∀ k, k < 95 → kd k = 0 → kd (k + 7) = 4 := by decide +kernel
  exact key k (kd_lt (by rw [h]; decide)) h
theorem kd0_10 {k : Nat} (h : kd k = 0) : kd (k + 10) = 4 := by
  have key : ∀ k, k < 95 → kd k = 0 → kd (k + 10) = 4 := by decide +kernel
  exact key k (kd_lt (by rw [h]; decide)) h
theorem kd1_1 {k : Nat} (h : kd k = 1) : kd (k + 1) = 7 := by
  have key : ∀ k, k < 95 → kd k = 1 → kd (k + 1) = 7 := by decide +kernel
  exact key k (kd_lt (by rw [h]; decide)) h
theorem kd2_1 {k : Nat} (h : kd k = 2) : kd (k + 1) = 8 := by
  have key : ∀ k, k < 95 → kd k = 2 → kd (k + 1) = 8 := by decide +kernel
  exact key k (kd_lt (by rw [h]; decide)) h
theorem kd3_1 {k : Nat} (h : kd k = 3) : kd (k + 1) = 0 := by
  have key : ∀ k, k < 95 → kd k = 3 → kd (k + 1) = 0 := by decide +kernel
  exact key k (kd_lt (by rw [h]; decide)) h
theorem kd3_14 {k : Nat} (h : kd k = 3) : kd (k + 14) = 0 := by
  have key : ∀ k, k < 95 → kd k = 3 → kd (k + 14) = 0 := by decide +kernel
  exact key k (kd_lt (by rw [h]; decide)) h
theorem kd3_27 {k : Nat} (h : kd k = 3) : kd (k + 27) = 0 := by
  have key : ∀ k, k < 95 → kd k = 3 → kd (k + 27) = 0 := by decide +kernel
  exact key k (kd_lt (by rw [h]; decide)) h
theorem kd3_40 {k : Nat} (h : kd k = 3) : kd (k + 40) = 0 := by
  have key : ∀ k, k < 95 → kd k = 3 → kd (k + 40) = 0 := by decide +kernel
  exact key k (kd_lt (by rw [h]; decide)) h
theorem kd4_1 {k : Nat} (h : kd k = 4) : kd (k + 1) = 1 := by
  have key : ∀ k, k < 95 → kd k = 4 → kd (k + 1) = 1 := by decide +kernel
  exact key k (kd_lt (by rw [h]; decide)) h
theorem kd5_1 {k : Nat} (h : kd k = 5) : kd (k + 1) = 0 := by
  have key : ∀ k, k < 95 → kd k = 5 → kd (k + 1) = 0 := by decide +kernel
  exact key k (kd_lt (by rw [h]; decide)) h
theorem kd5_14 {k : Nat} (h : kd k = 5) : kd (k + 14) = 0 := by
  have key : ∀ k, k < 95 → kd k = 5 → kd (k + 14) = 0 := by decide +kernel
  exact key k (kd_lt (by rw [h]; decide)) h
theorem kd5_27 {k : Nat} (h : kd k = 5) : kd (k + 27) = 0 := by
  have key : ∀ k, k < 95 → kd k = 5 → kd (k + 27) = 0 := by decide +kernel
  exact key k (kd_lt (by rw [h]; decide)) h
theorem kd5_40 {k : Nat} (h : kd k = 5) : kd (k + 40) = 3 := by
  have key : ∀ k, k < 95 → kd k = 5 → kd (k + 40) = 3 := by decide +kernel
  exact key k (kd_lt (by rw [h]; decide)) h
theorem kd5_93 {k : Nat} (h : kd k = 5) : kd (k + 93) = 2 := by
  have key : ∀ k, k < 95 → kd k = 5 → kd (k + 93) = 2 := by decide +kernel
  exact key k (kd_lt (by rw [h]; decide)) h
section Fields
variable {p : Program} {l : Launch} {e : Env} {Rm : Room} {s : State} {m : MethodId} {args : Array Value} {below : List Frame} {meth : Method} {c : Code} {H : Heap} {locs : List Loc} {cells slots : Nat} {Q : State → Prop} {cc : ByteArray} {nl : Nat} {rt : Option FieldType} {D : va_G} {cy : Nat → ClassId} {z : Nat} {σ τ : Sg} {o : Int64} {d : UInt64} {pc : Nat} {ls : Array Slot} {rest : List Value}
theorem gf_X0_12 (C : Bd p s m args meth c cc nl rt RX0 D cy z) (hP : WP D cy z σ τ o d H) {k : Nat} (hk : kd k = 0) (hdg : decode cc pc = .ok (.getfield 12, 3)) (kk : W p l e Rm s m args below meth c H locs cells slots Q (F0 m (pc + 3) ls (.ref (z + (k + 1)) :: rest))) : W p l e Rm s m args below meth c H locs cells slots Q (F0 m pc ls (.ref (z + k) :: rest)) :=
  g_get C hP (ci := 0) (j := 0) (T := TX0) (R := RX0) (N := 6) (by rw [hk]; decide) (ent_0 hk) rfl inWX0 (by decide) rfl (mA1 (i := 102) rfl rfl) rfl hdg kk
theorem gf_X0_18 (C : Bd p s m args meth c cc nl rt RX0 D cy z) (hP : WP D cy z σ τ o d H) {k : Nat} (hk : kd k = 0) (hdg : decode cc pc = .ok (.getfield 18, 3)) (kk : W p l e Rm s m args below meth c H locs cells slots Q (F0 m (pc + 3) ls (.ref (z + (k + 4)) :: rest))) : W p l e Rm s m args below meth c H locs cells slots Q (F0 m pc ls (.ref (z + k) :: rest)) :=
  g_get C hP (ci := 0) (j := 1) (T := TX0) (R := RX0) (N := 6) (by rw [hk]; decide) (ent_0 hk) rfl inWX0 (by decide) rfl (mA1 (i := 103) rfl rfl) rfl hdg kk
theorem gf_X0_21 (C : Bd p s m args meth c cc nl rt RX0 D cy z) (hP : WP D cy z σ τ o d H) {k : Nat} (hk : kd k = 0) (hdg : decode cc pc = .ok (.getfield 21, 3)) (kk : W p l e Rm s m args below meth c H locs cells slots Q (F0 m (pc + 3) ls (.ref (z + (k + 7)) :: rest))) : W p l e Rm s m args below meth c H locs cells slots Q (F0 m pc ls (.ref (z + k) :: rest)) :=
  g_get C hP (ci := 0) (j := 2) (T := TX0) (R := RX0) (N := 6) (by rw [hk]; decide) (ent_0 hk) rfl inWX0 (by decide) rfl (mA1 (i := 104) rfl rfl) rfl hdg kk
theorem gf_X0_24 (C : Bd p s m args meth c cc nl rt RX0 D cy z) (hP : WP D cy z σ τ o d H) {k : Nat} (hk : kd k = 0) (hdg : decode cc pc = .ok (.getfield 24, 3)) (kk : W p l e Rm s m args below meth c H locs cells slots Q (F0 m (pc + 3) ls (.ref (z + (k + 10)) :: rest))) : W p l e Rm s m args below meth c H locs cells slots Q (F0 m pc ls (.ref (z + k) :: rest)) :=
  g_get C hP (ci := 0) (j := 3) (T := TX0) (R := RX0) (N := 6) (by rw [hk]; decide) (ent_0 hk) rfl inWX0 (by decide) rfl (mA1 (i := 105) rfl rfl) rfl hdg kk
theorem gf_X0_27 (C : Bd p s m args meth c cc nl rt RX0 D cy z) (hP : WP D cy z σ τ o d H) {k : Nat} (hk : kd k = 0) (hdg : decode cc pc = .ok (.getfield 27, 3)) (kk : W p l e Rm s m args below meth c H locs cells slots Q (F0 m (pc + 3) ls (.int (σ k 4) :: rest))) : W p l e Rm s m args below meth c H locs cells slots Q (F0 m pc ls (.ref (z + k) :: rest)) :=
  g_get C hP (ci := 0) (j := 4) (T := TX0) (R := RX0) (N := 6) (by rw [hk]; decide) (ent_0 hk) rfl inWX0 (by decide) rfl (mA1 (i := 106) rfl rfl) rfl hdg kk
theorem pf_X0_27 (C : Bd p s m args meth c cc nl rt RX0 D cy z) (hP : WP D cy z σ τ o d H) (hS : va_S (fz z) s.heap H locs) {k : Nat} {v : Int32} (hk : kd k = 0) (hdg : decode cc pc = .ok (.putfield 27, 3)) (kk : ∀ (H1 : Heap) (locs1 : List Loc), WP D cy z (up σ k 4 v) τ o d H1 → va_S (fz z) s.heap H1 locs1 → W p l e Rm s m args below meth c H1 locs1 cells slots Q (F0 m (pc + 3) ls rest)) : W p l e Rm s m args below meth c H locs cells slots Q (F0 m pc ls (.int v :: .ref (z + k) :: rest)) :=
  g_put C hP hS (σ' := (up σ k 4 v)) (τ' := τ) (ci := 0) (j := 4) (T := TX0) (R := RX0) (N := 6) (ty := .int) (by rw [hk]; decide) (ent_0 hk) rfl inWX0 tyX0_ok nmX0 (by decide) rfl rfl (by decide +kernel) rfl rfl (mA1 (i := 106) rfl rfl) (Nat.le_of_ble_eq_true rfl) (by rw [ent_0 hk]; simp [up]) (fun i hi => (ent_up_ne hi).symm) hdg kk
theorem gf_X0_31 (C : Bd p s m args meth c cc nl rt RX0 D cy z) (hP : WP D cy z σ τ o d H) {k : Nat} (hk : kd k = 0) (hdg : decode cc pc = .ok (.getfield 31, 3)) (kk : W p l e Rm s m args below meth c H locs cells slots Q (F0 m (pc + 3) ls (.int (σ k 5) :: rest))) : W p l e Rm s m args below meth c H locs cells slots Q (F0 m pc ls (.ref (z + k) :: rest)) :=
  g_get C hP (ci := 0) (j := 5) (T := TX0) (R := RX0) (N := 6) (by rw [hk]; decide) (ent_0 hk) rfl inWX0 (by decide) rfl (mA1 (i := 108) rfl rfl) rfl hdg kk
theorem pf_X0_31 (C : Bd p s m args meth c cc nl rt RX0 D cy z) (hP : WP D cy z σ τ o d H) (hS : va_S (fz z) s.heap H locs) {k : Nat} {v : Int32} (hk : kd k = 0) (hdg : decode cc pc = .ok (.putfield 31, 3)) (kk : ∀ (H1 : Heap) (locs1 : List Loc), WP D cy z (up σ k 5 v) τ o d H1 → va_S (fz z) s.heap H1 locs1 → W p l e Rm s m args below meth c H1 locs1 cells slots Q (F0 m (pc + 3) ls rest)) : W p l e Rm s m args below meth c H locs cells slots Q (F0 m pc ls (.int v :: .ref (z + k) :: rest)) :=
  g_put C hP hS (σ' := (up σ k 5 v)) (τ' := τ) (ci := 0) (j := 5) (T := TX0) (R := RX0) (N := 6) (ty := .int) (by rw [hk]; decide) (ent_0 hk) rfl inWX0 tyX0_ok nmX0 (by decide) rfl rfl (by decide +kernel) rfl rfl (mA1 (i := 108) rfl rfl) (Nat.le_of_ble_eq_true rfl) (by rw [ent_0 hk]; simp [up]) (fun i hi => (ent_up_ne hi).symm) hdg kk
theorem gf_X1_11 (C : Bd p s m args meth c cc nl rt RX1 D cy z) (hP : WP D cy z σ τ o d H) {k : Nat} (hk : kd k = 1) (hdg : decode cc pc = .ok (.getfield 11, 3)) (kk : W p l e Rm s m args below meth c H locs cells slots Q (F0 m (pc + 3) ls (.ref (z + (k + 1)) :: rest))) : W p l e Rm s m args below meth c H locs cells slots Q (F0 m pc ls (.ref (z + k) :: rest)) :=
  g_get C hP (ci := 1) (j := 0) (T := TX1) (R := RX1) (N := 3) (by rw [hk]; decide) (ent_1 hk) rfl inWX1 (by decide) rfl (mA1 (i := 40) rfl rfl) rfl hdg kk
theorem gf_X1_15 (C : Bd p s m args meth c cc nl rt RX1 D cy z) (hP : WP D cy z σ τ o d H) {k : Nat} (hk : kd k = 1) (hdg : decode cc pc = .ok (.getfield 15, 3)) (kk : W p l e Rm s m args below meth c H locs cells slots Q (F0 m (pc + 3) ls (.int (σ k 2) :: rest))) : W p l e Rm s m args below meth c H locs cells slots Q (F0 m pc ls (.ref (z + k) :: rest)) :=
  g_get C hP (ci := 1) (j := 2) (T := TX1) (R := RX1) (N := 3) (by rw [hk]; decide) (ent_1 hk) rfl inWX1 (by decide) rfl (mA1 (i := 42) rfl rfl) rfl hdg kk
theorem pf_X1_15 (C : Bd p s m args meth c cc nl rt RX1 D cy z) (hP : WP D cy z σ τ o d H) (hS : va_S (fz z) s.heap H locs) {k : Nat} {v : Int32} (hk : kd k = 1) (hdg : decode cc pc = .ok (.putfield 15, 3)) (kk : ∀ (H1 : Heap) (locs1 : List Loc), WP D cy z (up σ k 2 v) τ o d H1 → va_S (fz z) s.heap H1 locs1 → W p l e Rm s m args below meth c H1 locs1 cells slots Q (F0 m (pc + 3) ls rest)) : W p l e Rm s m args below meth c H locs cells slots Q (F0 m pc ls (.int v :: .ref (z + k) :: rest)) :=
  g_put C hP hS (σ' := (up σ k 2 v)) (τ' := τ) (ci := 1) (j := 2) (T := TX1) (R := RX1) (N := 3) (ty := .int) (by rw [hk]; decide) (ent_1 hk) rfl inWX1 tyX1_ok nmX1 (by decide) rfl rfl (by decide +kernel) rfl rfl (mA1 (i := 42) rfl rfl) (Nat.le_of_ble_eq_true rfl) (by rw [ent_1 hk]; simp [up]) (fun i hi => (ent_up_ne hi).symm) hdg kk
theorem gf_X1_19 (C : Bd p s m args meth c cc nl rt RX1 D cy z) (hP : WP D cy z σ τ o d H) {k : Nat} (hk : kd k = 1) (hdg : decode cc pc = .ok (.getfield 19, 3)) (kk : W p l e Rm s m args below meth c H locs cells slots Q (F0 m (pc + 3) ls (.int (σ k 1) :: rest))) : W p l e Rm s m args below meth c H locs cells slots Q (F0 m pc ls (.ref (z + k) :: rest)) :=
  g_get C hP (ci := 1) (j := 1) (T := TX1) (R := RX1) (N := 3) (by rw [hk]; decide) (ent_1 hk) rfl inWX1 (by decide) rfl (mA1 (i := 41) rfl rfl) rfl hdg kk
theorem pf_X1_19 (C : Bd p s m args meth c cc nl rt RX1 D cy z) (hP : WP D cy z σ τ o d H) (hS : va_S (fz z) s.heap H locs) {k : Nat} {v : Int32} (hk : kd k = 1) (hdg : decode cc pc = .ok (.putfield 19, 3)) (kk : ∀ (H1 : Heap) (locs1 : List Loc), WP D cy z (up σ k 1 v) τ o d H1 → va_S (fz z) s.heap H1 locs1 → W p l e Rm s m args below meth c H1 locs1 cells slots Q (F0 m (pc + 3) ls rest)) : W p l e Rm s m args below meth c H locs cells slots Q (F0 m pc ls (.int v :: .ref (z + k) :: rest)) :=
  g_put C hP hS (σ' := (up σ k 1 v)) (τ' := τ) (ci := 1) (j := 1) (T := TX1) (R := RX1) (N := 3) (ty := .int) (by rw [hk]; decide) (ent_1 hk) rfl inWX1 tyX1_ok nmX1 (by decide) rfl rfl (by decide +kernel) rfl rfl (mA1 (i := 41) rfl rfl) (Nat.le_of_ble_eq_true rfl) (by rw [ent_1 hk]; simp [up]) (fun i hi => (ent_up_ne hi).symm) hdg kk
theorem gf_X3_12 (C : Bd p s m args meth c cc nl rt RX3 D cy z) (hP : WP D cy z σ τ o d H) {k : Nat} (hk : kd k = 3) (hdg : decode cc pc = .ok (.getfield 12, 3)) (kk : W p l e Rm s m args below meth c H locs cells slots Q (F0 m (pc + 3) ls (.ref (z + (k + 1)) :: rest))) : W p l e Rm s m args below meth c H locs cells slots Q (F0 m pc ls (.ref (z + k) :: rest)) :=
  g_get C hP (ci := 3) (j := 0) (T := TX3) (R := RX3) (N := 6) (by rw [hk]; decide) (ent_3 hk) rfl inWX3 (by decide) rfl (mA1 (i := 131) rfl rfl) rfl hdg kk
theorem gf_X3_18 (C : Bd p s m args meth c cc nl rt RX3 D cy z) (hP : WP D cy z σ τ o d H) {k : Nat} (hk : kd k = 3) (hdg : decode cc pc = .ok (.getfield 18, 3)) (kk : W p l e Rm s m args below meth c H locs cells slots Q (F0 m (pc + 3) ls (.ref (z + (k + 14)) :: rest))) : W p l e Rm s m args below meth c H locs cells slots Q (F0 m pc ls (.ref (z + k) :: rest)) :=
  g_get C hP (ci := 3) (j := 1) (T := TX3) (R := RX3) (N := 6) (by rw [hk]; decide) (ent_3 hk) rfl inWX3 (by decide) rfl (mA1 (i := 132) rfl rfl) rfl hdg kk
theorem gf_X3_21 (C : Bd p s m args meth c cc nl rt RX3 D cy z) (hP : WP D cy z σ τ o d H) {k : Nat} (hk : kd k = 3) (hdg : decode cc pc = .ok (.getfield 21, 3)) (kk : W p l e Rm s m args below meth c H locs cells slots Q (F0 m (pc + 3) ls (.ref (z + (k + 27)) :: rest))) : W p l e Rm s m args below meth c H locs cells slots Q (F0 m pc ls (.ref (z + k) :: rest)) :=
  g_get C hP (ci := 3) (j := 2) (T := TX3) (R := RX3) (N := 6) (by rw [hk]; decide) (ent_3 hk) rfl inWX3 (by decide) rfl (mA1 (i := 133) rfl rfl) rfl hdg kk
theorem gf_X3_24 (C : Bd p s m args meth c cc nl rt RX3 D cy z) (hP : WP D cy z σ τ o d H) {k : Nat} (hk : kd k = 3) (hdg : decode cc pc = .ok (.getfield 24, 3)) (kk : W p l e Rm s m args below meth c H locs cells slots Q (F0 m (pc + 3) ls (.ref (z + (k + 40)) :: rest))) : W p l e Rm s m args below meth c H locs cells slots Q (F0 m pc ls (.ref (z + k) :: rest)) :=
  g_get C hP (ci := 3) (j := 3) (T := TX3) (R := RX3) (N := 6) (by rw [hk]; decide) (ent_3 hk) rfl inWX3 (by decide) rfl (mA1 (i := 134) rfl rfl) rfl hdg kk
theorem gf_X3_27 (C : Bd p s m args meth c cc nl rt RX3 D cy z) (hP : WP D cy z σ τ o d H) {k : Nat} (hk : kd k = 3) (hdg : decode cc pc = .ok (.getfield 27, 3)) (kk : W p l e Rm s m args below meth c H locs cells slots Q (F0 m (pc + 3) ls (.int (σ k 5) :: rest))) : W p l e Rm s m args below meth c H locs cells slots Q (F0 m pc ls (.ref (z + k) :: rest)) :=
  g_get C hP (ci := 3) (j := 5) (T := TX3) (R := RX3) (N := 6) (by rw [hk]; decide) (ent_3 hk) rfl inWX3 (by decide) rfl (mA1 (i := 136) rfl rfl) rfl hdg kk
theorem pf_X3_27 (C : Bd p s m args meth c cc nl rt RX3 D cy z) (hP : WP D cy z σ τ o d H) (hS : va_S (fz z) s.heap H locs) {k : Nat} {v : Int32} (hk : kd k = 3) (hdg : decode cc pc = .ok (.putfield 27, 3)) (kk : ∀ (H1 : Heap) (locs1 : List Loc), WP D cy z (up σ k 5 v) τ o d H1 → va_S (fz z) s.heap H1 locs1 → W p l e Rm s m args below meth c H1 locs1 cells slots Q (F0 m (pc + 3) ls rest)) : W p l e Rm s m args below meth c H locs cells slots Q (F0 m pc ls (.int v :: .ref (z + k) :: rest)) :=
  g_put C hP hS (σ' := (up σ k 5 v)) (τ' := τ) (ci := 3) (j := 5) (T := TX3) (R := RX3) (N := 6) (ty := .int) (by rw [hk]; decide) (ent_3 hk) rfl inWX3 tyX3_ok nmX3 (by decide) rfl rfl (by decide +kernel) rfl rfl (mA1 (i := 136) rfl rfl) (Nat.le_of_ble_eq_true rfl) (by rw [ent_3 hk]; simp [up]) (fun i hi => (ent_up_ne hi).symm) hdg kk
theorem gf_X3_31 (C : Bd p s m args meth c cc nl rt RX3 D cy z) (hP : WP D cy z σ τ o d H) {k : Nat} (hk : kd k = 3) (hdg : decode cc pc = .ok (.getfield 31, 3)) (kk : W p l e Rm s m args below meth c H locs cells slots Q (F0 m (pc + 3) ls (.int (σ k 4) :: rest))) : W p l e Rm s m args below meth c H locs cells slots Q (F0 m pc ls (.ref (z + k) :: rest)) :=
  g_get C hP (ci := 3) (j := 4) (T := TX3) (R := RX3) (N := 6) (by rw [hk]; decide) (ent_3 hk) rfl inWX3 (by decide) rfl (mA1 (i := 135) rfl rfl) rfl hdg kk
theorem pf_X3_31 (C : Bd p s m args meth c cc nl rt RX3 D cy z) (hP : WP D cy z σ τ o d H) (hS : va_S (fz z) s.heap H locs) {k : Nat} {v : Int32} (hk : kd k = 3) (hdg : decode cc pc = .ok (.putfield 31, 3)) (kk : ∀ (H1 : Heap) (locs1 : List Loc), WP D cy z (up σ k 4 v) τ o d H1 → va_S (fz z) s.heap H1 locs1 → W p l e Rm s m args below meth c H1 locs1 cells slots Q (F0 m (pc + 3) ls rest)) : W p l e Rm s m args below meth c H locs cells slots Q (F0 m pc ls (.int v :: .ref (z + k) :: rest)) :=
  g_put C hP hS (σ' := (up σ k 4 v)) (τ' := τ) (ci := 3) (j := 4) (T := TX3) (R := RX3) (N := 6) (ty := .int) (by rw [hk]; decide) (ent_3 hk) rfl inWX3 tyX3_ok nmX3 (by decide) rfl rfl (by decide +kernel) rfl rfl (mA1 (i := 135) rfl rfl) (Nat.le_of_ble_eq_true rfl) (by rw [ent_3 hk]; simp [up]) (fun i hi => (ent_up_ne hi).symm) hdg kk
theorem gf_X4_12 (C : Bd p s m args meth c cc nl rt RX4 D cy z) (hP : WP D cy z σ τ o d H) {k : Nat} (hk : kd k = 4) (hdg : decode cc pc = .ok (.getfield 12, 3)) (kk : W p l e Rm s m args below meth c H locs cells slots Q (F0 m (pc + 3) ls (.ref (z + (k + 1)) :: rest))) : W p l e Rm s m args below meth c H locs cells slots Q (F0 m pc ls (.ref (z + k) :: rest)) :=
  g_get C hP (ci := 4) (j := 0) (T := TX4) (R := RX4) (N := 12) (by rw [hk]; decide) (ent_4 hk) rfl inWX4 (by decide) rfl (mA1 (i := 53) rfl rfl) rfl hdg kk
theorem gf_X4_18 (C : Bd p s m args meth c cc nl rt RX4 D cy z) (hP : WP D cy z σ τ o d H) {k : Nat} (hk : kd k = 4) (hdg : decode cc pc = .ok (.getfield 18, 3)) (kk : W p l e Rm s m args below meth c H locs cells slots Q (F0 m (pc + 3) ls (.int (σ k 1) :: rest))) : W p l e Rm s m args below meth c H locs cells slots Q (F0 m pc ls (.ref (z + k) :: rest)) :=
  g_get C hP (ci := 4) (j := 1) (T := TX4) (R := RX4) (N := 12) (by rw [hk]; decide) (ent_4 hk) rfl inWX4 (by decide) rfl (mA1 (i := 55) rfl rfl) rfl hdg kk
theorem pf_X4_18 (C : Bd p s m args meth c cc nl rt RX4 D cy z) (hP : WP D cy z σ τ o d H) (hS : va_S (fz z) s.heap H locs) {k : Nat} {v : Int32} (hk : kd k = 4) (hdg : decode cc pc = .ok (.putfield 18, 3)) (kk : ∀ (H1 : Heap) (locs1 : List Loc), WP D cy z (up σ k 1 v) τ o d H1 → va_S (fz z) s.heap H1 locs1 → W p l e Rm s m args below meth c H1 locs1 cells slots Q (F0 m (pc + 3) ls rest)) : W p l e Rm s m args below meth c H locs cells slots Q (F0 m pc ls (.int v :: .ref (z + k) :: rest)) :=
  g_put C hP hS (σ' := (up σ k 1 v)) (τ' := τ) (ci := 4) (j := 1) (T := TX4) (R := RX4) (N := 12) (ty := .int) (by rw [hk]; decide) (ent_4 hk) rfl inWX4 tyX4_ok nmX4 (by decide) rfl rfl (by decide +kernel) rfl rfl (mA1 (i := 55) rfl rfl) (Nat.le_of_ble_eq_true rfl) (by rw [ent_4 hk]; simp [up]) (fun i hi => (ent_up_ne hi).symm) hdg kk
theorem gf_X4_26 (C : Bd p s m args meth c cc nl rt RX4 D cy z) (hP : WP D cy z σ τ o d H) {k : Nat} (hk : kd k = 4) (hdg : decode cc pc = .ok (.getfield 26, 3)) (kk : W p l e Rm s m args below meth c H locs cells slots Q (F0 m (pc + 3) ls (.int (σ k 3) :: rest))) : W p l e Rm s m args below meth c H locs cells slots Q (F0 m pc ls (.ref (z + k) :: rest)) :=
  g_get C hP (ci := 4) (j := 3) (T := TX4) (R := RX4) (N := 12) (by rw [hk]; decide) (ent_4 hk) rfl inWX4 (by decide) rfl (mA1 (i := 59) rfl rfl) rfl hdg kk
theorem pf_X4_26 (C : Bd p s m args meth c cc nl rt RX4 D cy z) (hP : WP D cy z σ τ o d H) (hS : va_S (fz z) s.heap H locs) {k : Nat} {v : Int32} (hk : kd k = 4) (hdg : decode cc pc = .ok (.putfield 26, 3)) (kk : ∀ (H1 : Heap) (locs1 : List Loc), WP D cy z (up σ k 3 v) τ o d H1 → va_S (fz z) s.heap H1 locs1 → W p l e Rm s m args below meth c H1 locs1 cells slots Q (F0 m (pc + 3) ls rest)) : W p l e Rm s m args below meth c H locs cells slots Q (F0 m pc ls (.int v :: .ref (z + k) :: rest)) :=
  g_put C hP hS (σ' := (up σ k 3 v)) (τ' := τ) (ci := 4) (j := 3) (T := TX4) (R := RX4) (N := 12) (ty := .int) (by rw [hk]; decide) (ent_4 hk) rfl inWX4 tyX4_ok nmX4 (by decide) rfl rfl (by decide +kernel) rfl rfl (mA1 (i := 59) rfl rfl) (Nat.le_of_ble_eq_true rfl) (by rw [ent_4 hk]; simp [up]) (fun i hi => (ent_up_ne hi).symm) hdg kk
theorem gf_X4_32 (C : Bd p s m args meth c cc nl rt RX4 D cy z) (hP : WP D cy z σ τ o d H) {k : Nat} (hk : kd k = 4) (hdg : decode cc pc = .ok (.getfield 32, 3)) (kk : W p l e Rm s m args below meth c H locs cells slots Q (F0 m (pc + 3) ls (.int (σ k 11) :: rest))) : W p l e Rm s m args below meth c H locs cells slots Q (F0 m pc ls (.ref (z + k) :: rest)) :=
  g_get C hP (ci := 4) (j := 11) (T := TX4) (R := RX4) (N := 12) (by rw [hk]; decide) (ent_4 hk) rfl inWX4 (by decide) rfl (mA1 (i := 75) rfl rfl) rfl hdg kk
theorem pf_X4_32 (C : Bd p s m args meth c cc nl rt RX4 D cy z) (hP : WP D cy z σ τ o d H) (hS : va_S (fz z) s.heap H locs) {k : Nat} {v : Int32} (hk : kd k = 4) (hdg : decode cc pc = .ok (.putfield 32, 3)) (kk : ∀ (H1 : Heap) (locs1 : List Loc), WP D cy z (up σ k 11 v) τ o d H1 → va_S (fz z) s.heap H1 locs1 → W p l e Rm s m args below meth c H1 locs1 cells slots Q (F0 m (pc + 3) ls rest)) : W p l e Rm s m args below meth c H locs cells slots Q (F0 m pc ls (.int v :: .ref (z + k) :: rest)) :=
  g_put C hP hS (σ' := (up σ k 11 v)) (τ' := τ) (ci := 4) (j := 11) (T := TX4) (R := RX4) (N := 12) (ty := .int) (by rw [hk]; decide) (ent_4 hk) rfl inWX4 tyX4_ok nmX4 (by decide) rfl rfl (by decide +kernel) rfl rfl (mA1 (i := 75) rfl rfl) (Nat.le_of_ble_eq_true rfl) (by rw [ent_4 hk]; simp [up]) (fun i hi => (ent_up_ne hi).symm) hdg kk
theorem gf_X4_36 (C : Bd p s m args meth c cc nl rt RX4 D cy z) (hP : WP D cy z σ τ o d H) {k : Nat} (hk : kd k = 4) (hdg : decode cc pc = .ok (.getfield 36, 3)) (kk : W p l e Rm s m args below meth c H locs cells slots Q (F0 m (pc + 3) ls (.int (σ k 10) :: rest))) : W p l e Rm s m args below meth c H locs cells slots Q (F0 m pc ls (.ref (z + k) :: rest)) :=
  g_get C hP (ci := 4) (j := 10) (T := TX4) (R := RX4) (N := 12) (by rw [hk]; decide) (ent_4 hk) rfl inWX4 (by decide) rfl (mA1 (i := 73) rfl rfl) rfl hdg kk
theorem pf_X4_36 (C : Bd p s m args meth c cc nl rt RX4 D cy z) (hP : WP D cy z σ τ o d H) (hS : va_S (fz z) s.heap H locs) {k : Nat} {v : Int32} (hk : kd k = 4) (hdg : decode cc pc = .ok (.putfield 36, 3)) (kk : ∀ (H1 : Heap) (locs1 : List Loc), WP D cy z (up σ k 10 v) τ o d H1 → va_S (fz z) s.heap H1 locs1 → W p l e Rm s m args below meth c H1 locs1 cells slots Q (F0 m (pc + 3) ls rest)) : W p l e Rm s m args below meth c H locs cells slots Q (F0 m pc ls (.int v :: .ref (z + k) :: rest)) :=
  g_put C hP hS (σ' := (up σ k 10 v)) (τ' := τ) (ci := 4) (j := 10) (T := TX4) (R := RX4) (N := 12) (ty := .int) (by rw [hk]; decide) (ent_4 hk) rfl inWX4 tyX4_ok nmX4 (by decide) rfl rfl (by decide +kernel) rfl rfl (mA1 (i := 73) rfl rfl) (Nat.le_of_ble_eq_true rfl) (by rw [ent_4 hk]; simp [up]) (fun i hi => (ent_up_ne hi).symm) hdg kk
theorem gf_X4_39 (C : Bd p s m args meth c cc nl rt RX4 D cy z) (hP : WP D cy z σ τ o d H) {k : Nat} (hk : kd k = 4) (hdg : decode cc pc = .ok (.getfield 39, 3)) (kk : W p l e Rm s m args below meth c H locs cells slots Q (F0 m (pc + 3) ls (.int (σ k 8) :: rest))) : W p l e Rm s m args below meth c H locs cells slots Q (F0 m pc ls (.ref (z + k) :: rest)) :=
  g_get C hP (ci := 4) (j := 8) (T := TX4) (R := RX4) (N := 12) (by rw [hk]; decide) (ent_4 hk) rfl inWX4 (by decide) rfl (mA1 (i := 69) rfl rfl) rfl hdg kk
theorem pf_X4_39 (C : Bd p s m args meth c cc nl rt RX4 D cy z) (hP : WP D cy z σ τ o d H) (hS : va_S (fz z) s.heap H locs) {k : Nat} {v : Int32} (hk : kd k = 4) (hdg : decode cc pc = .ok (.putfield 39, 3)) (kk : ∀ (H1 : Heap) (locs1 : List Loc), WP D cy z (up σ k 8 v) τ o d H1 → va_S (fz z) s.heap H1 locs1 → W p l e Rm s m args below meth c H1 locs1 cells slots Q (F0 m (pc + 3) ls rest)) : W p l e Rm s m args below meth c H locs cells slots Q (F0 m pc ls (.int v :: .ref (z + k) :: rest)) :=
  g_put C hP hS (σ' := (up σ k 8 v)) (τ' := τ) (ci := 4) (j := 8) (T := TX4) (R := RX4) (N := 12) (ty := .int) (by rw [hk]; decide) (ent_4 hk) rfl inWX4 tyX4_ok nmX4 (by decide) rfl rfl (by decide +kernel) rfl rfl (mA1 (i := 69) rfl rfl) (Nat.le_of_ble_eq_true rfl) (by rw [ent_4 hk]; simp [up]) (fun i hi => (ent_up_ne hi).symm) hdg kk
theorem gf_X4_49 (C : Bd p s m args meth c cc nl rt RX4 D cy z) (hP : WP D cy z σ τ o d H) {k : Nat} (hk : kd k = 1) (hdg : decode cc pc = .ok (.getfield 49, 3)) (kk : W p l e Rm s m args below meth c H locs cells slots Q (F0 m (pc + 3) ls (.int (σ k 2) :: rest))) : W p l e Rm s m args below meth c H locs cells slots Q (F0 m pc ls (.ref (z + k) :: rest)) :=
  g_getN C hP (ci := 1) (j := 2) (T := TX1) (R := RX1) (N := 3) (host := "QuadSnail") (by rw [hk]; decide) (ent_1 hk) rfl inWX1 (by decide) rfl (by decide +kernel) rfl hdg kk
theorem gf_X4_77 (C : Bd p s m args meth c cc nl rt RX4 D cy z) (hP : WP D cy z σ τ o d H) {k : Nat} (hk : kd k = 4) (hdg : decode cc pc = .ok (.getfield 77, 3)) (kk : W p l e Rm s m args below meth c H locs cells slots Q (F0 m (pc + 3) ls (.int (σ k 2) :: rest))) : W p l e Rm s m args below meth c H locs cells slots Q (F0 m pc ls (.ref (z + k) :: rest)) :=
  g_get C hP (ci := 4) (j := 2) (T := TX4) (R := RX4) (N := 12) (by rw [hk]; decide) (ent_4 hk) rfl inWX4 (by decide) rfl (mA1 (i := 58) rfl rfl) rfl hdg kk
theorem pf_X4_77 (C : Bd p s m args meth c cc nl rt RX4 D cy z) (hP : WP D cy z σ τ o d H) (hS : va_S (fz z) s.heap H locs) {k : Nat} {v : Int32} (hk : kd k = 4) (hdg : decode cc pc = .ok (.putfield 77, 3)) (kk : ∀ (H1 : Heap) (locs1 : List Loc), WP D cy z (up σ k 2 v) τ o d H1 → va_S (fz z) s.heap H1 locs1 → W p l e Rm s m args below meth c H1 locs1 cells slots Q (F0 m (pc + 3) ls rest)) : W p l e Rm s m args below meth c H locs cells slots Q (F0 m pc ls (.int v :: .ref (z + k) :: rest)) :=
  g_put C hP hS (σ' := (up σ k 2 v)) (τ' := τ) (ci := 4) (j := 2) (T := TX4) (R := RX4) (N := 12) (ty := .int) (by rw [hk]; decide) (ent_4 hk) rfl inWX4 tyX4_ok nmX4 (by decide) rfl rfl (by decide +kernel) rfl rfl (mA1 (i := 58) rfl rfl) (Nat.le_of_ble_eq_true rfl) (by rw [ent_4 hk]; simp [up]) (fun i hi => (ent_up_ne hi).symm) hdg kk
theorem gf_X4_80 (C : Bd p s m args meth c cc nl rt RX4 D cy z) (hP : WP D cy z σ τ o d H) {k : Nat} (hk : kd k = 4) (hdg : decode cc pc = .ok (.getfield 80, 3)) (kk : W p l e Rm s m args below meth c H locs cells slots Q (F0 m (pc + 3) ls (.int (σ k 4) :: rest))) : W p l e Rm s m args below meth c H locs cells slots Q (F0 m pc ls (.ref (z + k) :: rest)) :=
  g_get C hP (ci := 4) (j := 4) (T := TX4) (R := RX4) (N := 12) (by rw [hk]; decide) (ent_4 hk) rfl inWX4 (by decide) rfl (mA1 (i := 61) rfl rfl) rfl hdg kk
theorem pf_X4_80 (C : Bd p s m args meth c cc nl rt RX4 D cy z) (hP : WP D cy z σ τ o d H) (hS : va_S (fz z) s.heap H locs) {k : Nat} {v : Int32} (hk : kd k = 4) (hdg : decode cc pc = .ok (.putfield 80, 3)) (kk : ∀ (H1 : Heap) (locs1 : List Loc), WP D cy z (up σ k 4 v) τ o d H1 → va_S (fz z) s.heap H1 locs1 → W p l e Rm s m args below meth c H1 locs1 cells slots Q (F0 m (pc + 3) ls rest)) : W p l e Rm s m args below meth c H locs cells slots Q (F0 m pc ls (.int v :: .ref (z + k) :: rest)) :=
  g_put C hP hS (σ' := (up σ k 4 v)) (τ' := τ) (ci := 4) (j := 4) (T := TX4) (R := RX4) (N := 12) (ty := .int) (by rw [hk]; decide) (ent_4 hk) rfl inWX4 tyX4_ok nmX4 (by decide) rfl rfl (by decide +kernel) rfl rfl (mA1 (i := 61) rfl rfl) (Nat.le_of_ble_eq_true rfl) (by rw [ent_4 hk]; simp [up]) (fun i hi => (ent_up_ne hi).symm) hdg kk
theorem gf_X4_83 (C : Bd p s m args meth c cc nl rt RX4 D cy z) (hP : WP D cy z σ τ o d H) {k : Nat} (hk : kd k = 4) (hdg : decode cc pc = .ok (.getfield 83, 3)) (kk : W p l e Rm s m args below meth c H locs cells slots Q (F0 m (pc + 3) ls (.int (σ k 5) :: rest))) : W p l e Rm s m args below meth c H locs cells slots Q (F0 m pc ls (.ref (z + k) :: rest)) :=
  g_get C hP (ci := 4) (j := 5) (T := TX4) (R := RX4) (N := 12) (by rw [hk]; decide) (ent_4 hk) rfl inWX4 (by decide) rfl (mA1 (i := 63) rfl rfl) rfl hdg kk
theorem pf_X4_83 (C : Bd p s m args meth c cc nl rt RX4 D cy z) (hP : WP D cy z σ τ o d H) (hS : va_S (fz z) s.heap H locs) {k : Nat} {v : Int32} (hk : kd k = 4) (hdg : decode cc pc = .ok (.putfield 83, 3)) (kk : ∀ (H1 : Heap) (locs1 : List Loc), WP D cy z (up σ k 5 v) τ o d H1 → va_S (fz z) s.heap H1 locs1 → W p l e Rm s m args below meth c H1 locs1 cells slots Q (F0 m (pc + 3) ls rest)) : W p l e Rm s m args below meth c H locs cells slots Q (F0 m pc ls (.int v :: .ref (z + k) :: rest)) :=
  g_put C hP hS (σ' := (up σ k 5 v)) (τ' := τ) (ci := 4) (j := 5) (T := TX4) (R := RX4) (N := 12) (ty := .int) (by rw [hk]; decide) (ent_4 hk) rfl inWX4 tyX4_ok nmX4 (by decide) rfl rfl (by decide +kernel) rfl rfl (mA1 (i := 63) rfl rfl) (Nat.le_of_ble_eq_true rfl) (by rw [ent_4 hk]; simp [up]) (fun i hi => (ent_up_ne hi).symm) hdg kk
theorem gf_X4_86 (C : Bd p s m args meth c cc nl rt RX4 D cy z) (hP : WP D cy z σ τ o d H) {k : Nat} (hk : kd k = 4) (hdg : decode cc pc = .ok (.getfield 86, 3)) (kk : W p l e Rm s m args below meth c H locs cells slots Q (F0 m (pc + 3) ls (.int (σ k 6) :: rest))) : W p l e Rm s m args below meth c H locs cells slots Q (F0 m pc ls (.ref (z + k) :: rest)) :=
  g_get C hP (ci := 4) (j := 6) (T := TX4) (R := RX4) (N := 12) (by rw [hk]; decide) (ent_4 hk) rfl inWX4 (by decide) rfl (mA1 (i := 65) rfl rfl) rfl hdg kk
theorem pf_X4_86 (C : Bd p s m args meth c cc nl rt RX4 D cy z) (hP : WP D cy z σ τ o d H) (hS : va_S (fz z) s.heap H locs) {k : Nat} {v : Int32} (hk : kd k = 4) (hdg : decode cc pc = .ok (.putfield 86, 3)) (kk : ∀ (H1 : Heap) (locs1 : List Loc), WP D cy z (up σ k 6 v) τ o d H1 → va_S (fz z) s.heap H1 locs1 → W p l e Rm s m args below meth c H1 locs1 cells slots Q (F0 m (pc + 3) ls rest)) : W p l e Rm s m args below meth c H locs cells slots Q (F0 m pc ls (.int v :: .ref (z + k) :: rest)) :=
  g_put C hP hS (σ' := (up σ k 6 v)) (τ' := τ) (ci := 4) (j := 6) (T := TX4) (R := RX4) (N := 12) (ty := .int) (by rw [hk]; decide) (ent_4 hk) rfl inWX4 tyX4_ok nmX4 (by decide) rfl rfl (by decide +kernel) rfl rfl (mA1 (i := 65) rfl rfl) (Nat.le_of_ble_eq_true rfl) (by rw [ent_4 hk]; simp [up]) (fun i hi => (ent_up_ne hi).symm) hdg kk
theorem gf_X4_99 (C : Bd p s m args meth c cc nl rt RX4 D cy z) (hP : WP D cy z σ τ o d H) {k : Nat} (hk : kd k = 4) (hdg : decode cc pc = .ok (.getfield 99, 3)) (kk : W p l e Rm s m args below meth c H locs cells slots Q (F0 m (pc + 3) ls (.int (σ k 7) :: rest))) : W p l e Rm s m args below meth c H locs cells slots Q (F0 m pc ls (.ref (z + k) :: rest)) :=
  g_get C hP (ci := 4) (j := 7) (T := TX4) (R := RX4) (N := 12) (by rw [hk]; decide) (ent_4 hk) rfl inWX4 (by decide) rfl (mA1 (i := 67) rfl rfl) rfl hdg kk
theorem pf_X4_99 (C : Bd p s m args meth c cc nl rt RX4 D cy z) (hP : WP D cy z σ τ o d H) (hS : va_S (fz z) s.heap H locs) {k : Nat} {v : Int32} (hk : kd k = 4) (hdg : decode cc pc = .ok (.putfield 99, 3)) (kk : ∀ (H1 : Heap) (locs1 : List Loc), WP D cy z (up σ k 7 v) τ o d H1 → va_S (fz z) s.heap H1 locs1 → W p l e Rm s m args below meth c H1 locs1 cells slots Q (F0 m (pc + 3) ls rest)) : W p l e Rm s m args below meth c H locs cells slots Q (F0 m pc ls (.int v :: .ref (z + k) :: rest)) :=
  g_put C hP hS (σ' := (up σ k 7 v)) (τ' := τ) (ci := 4) (j := 7) (T := TX4) (R := RX4) (N := 12) (ty := .int) (by rw [hk]; decide) (ent_4 hk) rfl inWX4 tyX4_ok nmX4 (by decide) rfl rfl (by decide +kernel) rfl rfl (mA1 (i := 67) rfl rfl) (Nat.le_of_ble_eq_true rfl) (by rw [ent_4 hk]; simp [up]) (fun i hi => (ent_up_ne hi).symm) hdg kk
theorem gf_X4_102 (C : Bd p s m args meth c cc nl rt RX4 D cy z) (hP : WP D cy z σ τ o d H) {k : Nat} (hk : kd k = 4) (hdg : decode cc pc = .ok (.getfield 102, 3)) (kk : W p l e Rm s m args below meth c H locs cells slots Q (F0 m (pc + 3) ls (.int (σ k 9) :: rest))) : W p l e Rm s m args below meth c H locs cells slots Q (F0 m pc ls (.ref (z + k) :: rest)) :=
  g_get C hP (ci := 4) (j := 9) (T := TX4) (R := RX4) (N := 12) (by rw [hk]; decide) (ent_4 hk) rfl inWX4 (by decide) rfl (mA1 (i := 71) rfl rfl) rfl hdg kk
theorem pf_X4_102 (C : Bd p s m args meth c cc nl rt RX4 D cy z) (hP : WP D cy z σ τ o d H) (hS : va_S (fz z) s.heap H locs) {k : Nat} {v : Int32} (hk : kd k = 4) (hdg : decode cc pc = .ok (.putfield 102, 3)) (kk : ∀ (H1 : Heap) (locs1 : List Loc), WP D cy z (up σ k 9 v) τ o d H1 → va_S (fz z) s.heap H1 locs1 → W p l e Rm s m args below meth c H1 locs1 cells slots Q (F0 m (pc + 3) ls rest)) : W p l e Rm s m args below meth c H locs cells slots Q (F0 m pc ls (.int v :: .ref (z + k) :: rest)) :=
  g_put C hP hS (σ' := (up σ k 9 v)) (τ' := τ) (ci := 4) (j := 9) (T := TX4) (R := RX4) (N := 12) (ty := .int) (by rw [hk]; decide) (ent_4 hk) rfl inWX4 tyX4_ok nmX4 (by decide) rfl rfl (by decide +kernel) rfl rfl (mA1 (i := 71) rfl rfl) (Nat.le_of_ble_eq_true rfl) (by rw [ent_4 hk]; simp [up]) (fun i hi => (ent_up_ne hi).symm) hdg kk
theorem gf_X5_10 (C : Bd p s m args meth c cc nl rt RX5 D cy z) (hP : WP D cy z σ τ o d H) {k : Nat} (hk : kd k = 5) (hdg : decode cc pc = .ok (.getfield 10, 3)) (kk : W p l e Rm s m args below meth c H locs cells slots Q (F0 m (pc + 3) ls (.ref (z + (k + 1)) :: rest))) : W p l e Rm s m args below meth c H locs cells slots Q (F0 m pc ls (.ref (z + k) :: rest)) :=
  g_get C hP (ci := 5) (j := 0) (T := TX5) (R := RX5) (N := 6) (by rw [hk]; decide) (ent_5 hk) rfl inWX5 (by decide) rfl (mA1 (i := 163) rfl rfl) rfl hdg kk
theorem gf_X5_25 (C : Bd p s m args meth c cc nl rt RX5 D cy z) (hP : WP D cy z σ τ o d H) {k : Nat} (hk : kd k = 5) (hdg : decode cc pc = .ok (.getfield 25, 3)) (kk : W p l e Rm s m args below meth c H locs cells slots Q (F0 m (pc + 3) ls (.ref (z + (k + 40)) :: rest))) : W p l e Rm s m args below meth c H locs cells slots Q (F0 m pc ls (.ref (z + k) :: rest)) :=
  g_get C hP (ci := 5) (j := 3) (T := TX5) (R := RX5) (N := 6) (by rw [hk]; decide) (ent_5 hk) rfl inWX5 (by decide) rfl (mA1 (i := 166) rfl rfl) rfl hdg kk
theorem gf_X5_51 (C : Bd p s m args meth c cc nl rt RX5 D cy z) (hP : WP D cy z σ τ o d H) {k : Nat} (hk : kd k = 0) (hdg : decode cc pc = .ok (.getfield 51, 3)) (kk : W p l e Rm s m args below meth c H locs cells slots Q (F0 m (pc + 3) ls (.int (σ k 4) :: rest))) : W p l e Rm s m args below meth c H locs cells slots Q (F0 m pc ls (.ref (z + k) :: rest)) :=
  g_getN C hP (ci := 0) (j := 4) (T := TX0) (R := RX0) (N := 6) (host := "QuadSnail") (by rw [hk]; decide) (ent_0 hk) rfl inWX0 (by decide) rfl (by decide +kernel) rfl hdg kk
theorem pf_X5_51 (C : Bd p s m args meth c cc nl rt RX5 D cy z) (hP : WP D cy z σ τ o d H) (hS : va_S (fz z) s.heap H locs) {k : Nat} {v : Int32} (hk : kd k = 0) (hdg : decode cc pc = .ok (.putfield 51, 3)) (kk : ∀ (H1 : Heap) (locs1 : List Loc), WP D cy z (up σ k 4 v) τ o d H1 → va_S (fz z) s.heap H1 locs1 → W p l e Rm s m args below meth c H1 locs1 cells slots Q (F0 m (pc + 3) ls rest)) : W p l e Rm s m args below meth c H locs cells slots Q (F0 m pc ls (.int v :: .ref (z + k) :: rest)) :=
  g_putN C hP hS (σ' := (up σ k 4 v)) (τ' := τ) (ci := 0) (j := 4) (T := TX0) (R := RX0) (N := 6) (ty := .int) (host := "QuadSnail") (by rw [hk]; decide) (ent_0 hk) rfl inWX0 tyX0_ok nmX0 (by decide) rfl rfl (by decide +kernel) rfl rfl (by decide +kernel) (Nat.le_of_ble_eq_true rfl) (by rw [ent_0 hk]; simp [up]) (fun i hi => (ent_up_ne hi).symm) hdg kk
theorem gf_X5_84 (C : Bd p s m args meth c cc nl rt RX5 D cy z) (hP : WP D cy z σ τ o d H) {k : Nat} (hk : kd k = 4) (hdg : decode cc pc = .ok (.getfield 84, 3)) (kk : W p l e Rm s m args below meth c H locs cells slots Q (F0 m (pc + 3) ls (.int (σ k 2) :: rest))) : W p l e Rm s m args below meth c H locs cells slots Q (F0 m pc ls (.ref (z + k) :: rest)) :=
  g_getN C hP (ci := 4) (j := 2) (T := TX4) (R := RX4) (N := 12) (host := "QuadSnail") (by rw [hk]; decide) (ent_4 hk) rfl inWX4 (by decide) rfl (by decide +kernel) rfl hdg kk
theorem gf_X5_87 (C : Bd p s m args meth c cc nl rt RX5 D cy z) (hP : WP D cy z σ τ o d H) {k : Nat} (hk : kd k = 0) (hdg : decode cc pc = .ok (.getfield 87, 3)) (kk : W p l e Rm s m args below meth c H locs cells slots Q (F0 m (pc + 3) ls (.int (σ k 5) :: rest))) : W p l e Rm s m args below meth c H locs cells slots Q (F0 m pc ls (.ref (z + k) :: rest)) :=
  g_getN C hP (ci := 0) (j := 5) (T := TX0) (R := RX0) (N := 6) (host := "QuadSnail") (by rw [hk]; decide) (ent_0 hk) rfl inWX0 (by decide) rfl (by decide +kernel) rfl hdg kk
theorem pf_X5_87 (C : Bd p s m args meth c cc nl rt RX5 D cy z) (hP : WP D cy z σ τ o d H) (hS : va_S (fz z) s.heap H locs) {k : Nat} {v : Int32} (hk : kd k = 0) (hdg : decode cc pc = .ok (.putfield 87, 3)) (kk : ∀ (H1 : Heap) (locs1 : List Loc), WP D cy z (up σ k 5 v) τ o d H1 → va_S (fz z) s.heap H1 locs1 → W p l e Rm s m args below meth c H1 locs1 cells slots Q (F0 m (pc + 3) ls rest)) : W p l e Rm s m args below meth c H locs cells slots Q (F0 m pc ls (.int v :: .ref (z + k) :: rest)) :=
  g_putN C hP hS (σ' := (up σ k 5 v)) (τ' := τ) (ci := 0) (j := 5) (T := TX0) (R := RX0) (N := 6) (ty := .int) (host := "QuadSnail") (by rw [hk]; decide) (ent_0 hk) rfl inWX0 tyX0_ok nmX0 (by decide) rfl rfl (by decide +kernel) rfl rfl (by decide +kernel) (Nat.le_of_ble_eq_true rfl) (by rw [ent_0 hk]; simp [up]) (fun i hi => (ent_up_ne hi).symm) hdg kk
theorem gf_X5_154 (C : Bd p s m args meth c cc nl rt RX5 D cy z) (hP : WP D cy z σ τ o d H) {k : Nat} (hk : kd k = 4) (hdg : decode cc pc = .ok (.getfield 154, 3)) (kk : W p l e Rm s m args below meth c H locs cells slots Q (F0 m (pc + 3) ls (.int (σ k 1) :: rest))) : W p l e Rm s m args below meth c H locs cells slots Q (F0 m pc ls (.ref (z + k) :: rest)) :=
  g_getN C hP (ci := 4) (j := 1) (T := TX4) (R := RX4) (N := 12) (host := "QuadSnail") (by rw [hk]; decide) (ent_4 hk) rfl inWX4 (by decide) rfl (by decide +kernel) rfl hdg kk
theorem gf_X5_157 (C : Bd p s m args meth c cc nl rt RX5 D cy z) (hP : WP D cy z σ τ o d H) {k : Nat} (hk : kd k = 4) (hdg : decode cc pc = .ok (.getfield 157, 3)) (kk : W p l e Rm s m args below meth c H locs cells slots Q (F0 m (pc + 3) ls (.int (σ k 4) :: rest))) : W p l e Rm s m args below meth c H locs cells slots Q (F0 m pc ls (.ref (z + k) :: rest)) :=
  g_getN C hP (ci := 4) (j := 4) (T := TX4) (R := RX4) (N := 12) (host := "QuadSnail") (by rw [hk]; decide) (ent_4 hk) rfl inWX4 (by decide) rfl (by decide +kernel) rfl hdg kk
theorem gf_X5_160 (C : Bd p s m args meth c cc nl rt RX5 D cy z) (hP : WP D cy z σ τ o d H) {k : Nat} (hk : kd k = 4) (hdg : decode cc pc = .ok (.getfield 160, 3)) (kk : W p l e Rm s m args below meth c H locs cells slots Q (F0 m (pc + 3) ls (.int (σ k 5) :: rest))) : W p l e Rm s m args below meth c H locs cells slots Q (F0 m pc ls (.ref (z + k) :: rest)) :=
  g_getN C hP (ci := 4) (j := 5) (T := TX4) (R := RX4) (N := 12) (host := "QuadSnail") (by rw [hk]; decide) (ent_4 hk) rfl inWX4 (by decide) rfl (by decide +kernel) rfl hdg kk
theorem gf_X5_163 (C : Bd p s m args meth c cc nl rt RX5 D cy z) (hP : WP D cy z σ τ o d H) {k : Nat} (hk : kd k = 4) (hdg : decode cc pc = .ok (.getfield 163, 3)) (kk : W p l e Rm s m args below meth c H locs cells slots Q (F0 m (pc + 3) ls (.int (σ k 6) :: rest))) : W p l e Rm s m args below meth c H locs cells slots Q (F0 m pc ls (.ref (z + k) :: rest)) :=
  g_getN C hP (ci := 4) (j := 6) (T := TX4) (R := RX4) (N := 12) (host := "QuadSnail") (by rw [hk]; decide) (ent_4 hk) rfl inWX4 (by decide) rfl (by decide +kernel) rfl hdg kk
theorem gf_X5_166 (C : Bd p s m args meth c cc nl rt RX5 D cy z) (hP : WP D cy z σ τ o d H) {k : Nat} (hk : kd k = 4) (hdg : decode cc pc = .ok (.getfield 166, 3)) (kk : W p l e Rm s m args below meth c H locs cells slots Q (F0 m (pc + 3) ls (.int (σ k 7) :: rest))) : W p l e Rm s m args below meth c H locs cells slots Q (F0 m pc ls (.ref (z + k) :: rest)) :=
  g_getN C hP (ci := 4) (j := 7) (T := TX4) (R := RX4) (N := 12) (host := "QuadSnail") (by rw [hk]; decide) (ent_4 hk) rfl inWX4 (by decide) rfl (by decide +kernel) rfl hdg kk
theorem gf_X5_175 (C : Bd p s m args meth c cc nl rt RX5 D cy z) (hP : WP D cy z σ τ o d H) {k : Nat} (hk : kd k = 4) (hdg : decode cc pc = .ok (.getfield 175, 3)) (kk : W p l e Rm s m args below meth c H locs cells slots Q (F0 m (pc + 3) ls (.int (σ k 3) :: rest))) : W p l e Rm s m args below meth c H locs cells slots Q (F0 m pc ls (.ref (z + k) :: rest)) :=
  g_getN C hP (ci := 4) (j := 3) (T := TX4) (R := RX4) (N := 12) (host := "QuadSnail") (by rw [hk]; decide) (ent_4 hk) rfl inWX4 (by decide) rfl (by decide +kernel) rfl hdg kk
theorem gf_X5_181 (C : Bd p s m args meth c cc nl rt RX5 D cy z) (hP : WP D cy z σ τ o d H) {k : Nat} (hk : kd k = 4) (hdg : decode cc pc = .ok (.getfield 181, 3)) (kk : W p l e Rm s m args below meth c H locs cells slots Q (F0 m (pc + 3) ls (.ref (z + (k + 1)) :: rest))) : W p l e Rm s m args below meth c H locs cells slots Q (F0 m pc ls (.ref (z + k) :: rest)) :=
  g_getN C hP (ci := 4) (j := 0) (T := TX4) (R := RX4) (N := 12) (host := "QuadSnail") (by rw [hk]; decide) (ent_4 hk) rfl inWX4 (by decide) rfl (by decide +kernel) rfl hdg kk
theorem gf_X5_185 (C : Bd p s m args meth c cc nl rt RX5 D cy z) (hP : WP D cy z σ τ o d H) {k : Nat} (hk : kd k = 1) (hdg : decode cc pc = .ok (.getfield 185, 3)) (kk : W p l e Rm s m args below meth c H locs cells slots Q (F0 m (pc + 3) ls (.int (σ k 2) :: rest))) : W p l e Rm s m args below meth c H locs cells slots Q (F0 m pc ls (.ref (z + k) :: rest)) :=
  g_getN C hP (ci := 1) (j := 2) (T := TX1) (R := RX1) (N := 3) (host := "QuadSnail") (by rw [hk]; decide) (ent_1 hk) rfl inWX1 (by decide) rfl (by decide +kernel) rfl hdg kk
theorem gf_X5_200 (C : Bd p s m args meth c cc nl rt RX5 D cy z) (hP : WP D cy z σ τ o d H) {k : Nat} (hk : kd k = 4) (hdg : decode cc pc = .ok (.getfield 200, 3)) (kk : W p l e Rm s m args below meth c H locs cells slots Q (F0 m (pc + 3) ls (.int (σ k 8) :: rest))) : W p l e Rm s m args below meth c H locs cells slots Q (F0 m pc ls (.ref (z + k) :: rest)) :=
  g_getN C hP (ci := 4) (j := 8) (T := TX4) (R := RX4) (N := 12) (host := "QuadSnail") (by rw [hk]; decide) (ent_4 hk) rfl inWX4 (by decide) rfl (by decide +kernel) rfl hdg kk
theorem gf_X5_203 (C : Bd p s m args meth c cc nl rt RX5 D cy z) (hP : WP D cy z σ τ o d H) {k : Nat} (hk : kd k = 4) (hdg : decode cc pc = .ok (.getfield 203, 3)) (kk : W p l e Rm s m args below meth c H locs cells slots Q (F0 m (pc + 3) ls (.int (σ k 9) :: rest))) : W p l e Rm s m args below meth c H locs cells slots Q (F0 m pc ls (.ref (z + k) :: rest)) :=
  g_getN C hP (ci := 4) (j := 9) (T := TX4) (R := RX4) (N := 12) (host := "QuadSnail") (by rw [hk]; decide) (ent_4 hk) rfl inWX4 (by decide) rfl (by decide +kernel) rfl hdg kk
theorem gf_X5_206 (C : Bd p s m args meth c cc nl rt RX5 D cy z) (hP : WP D cy z σ τ o d H) {k : Nat} (hk : kd k = 4) (hdg : decode cc pc = .ok (.getfield 206, 3)) (kk : W p l e Rm s m args below meth c H locs cells slots Q (F0 m (pc + 3) ls (.int (σ k 10) :: rest))) : W p l e Rm s m args below meth c H locs cells slots Q (F0 m pc ls (.ref (z + k) :: rest)) :=
  g_getN C hP (ci := 4) (j := 10) (T := TX4) (R := RX4) (N := 12) (host := "QuadSnail") (by rw [hk]; decide) (ent_4 hk) rfl inWX4 (by decide) rfl (by decide +kernel) rfl hdg kk
theorem gf_X5_209 (C : Bd p s m args meth c cc nl rt RX5 D cy z) (hP : WP D cy z σ τ o d H) {k : Nat} (hk : kd k = 4) (hdg : decode cc pc = .ok (.getfield 209, 3)) (kk : W p l e Rm s m args below meth c H locs cells slots Q (F0 m (pc + 3) ls (.int (σ k 11) :: rest))) : W p l e Rm s m args below meth c H locs cells slots Q (F0 m pc ls (.ref (z + k) :: rest)) :=
  g_getN C hP (ci := 4) (j := 11) (T := TX4) (R := RX4) (N := 12) (host := "QuadSnail") (by rw [hk]; decide) (ent_4 hk) rfl inWX4 (by decide) rfl (by decide +kernel) rfl hdg kk
theorem al_7 {own : String} (C : Bd p s m args meth c cc nl rt own D cy z) (hP : WP D cy z σ τ o d H) {k : Nat} {i : Int32} (hk : kd k = 7) (hin : vp_in i 48) (hdg : decode cc pc = .ok (.iaload, 1)) (kk : W p l e Rm s m args below meth c H locs cells slots Q (F0 m (pc + 1) ls (.int (σ k i.toNatClampNeg) :: rest))) : W p l e Rm s m args below meth c H locs cells slots Q (F0 m pc ls (.int i :: .ref (z + k) :: rest)) :=
  g_iald C hP (n := 48) (f := σ k) (by rw [hk]; decide) (ent_7 hk) hin hdg kk
theorem as_7 {own : String} (C : Bd p s m args meth c cc nl rt own D cy z) (hP : WP D cy z σ τ o d H) (hS : va_S (fz z) s.heap H locs) {k : Nat} {i x : Int32} (hk : kd k = 7) (hin : vp_in i 48) (hdg : decode cc pc = .ok (.iastore, 1)) (kk : ∀ (H1 : Heap) (locs1 : List Loc), WP D cy z (up σ k i.toNatClampNeg x) τ o d H1 → va_S (fz z) s.heap H1 locs1 → W p l e Rm s m args below meth c H1 locs1 cells slots Q (F0 m (pc + 1) ls rest)) : W p l e Rm s m args below meth c H locs cells slots Q (F0 m pc ls (.int x :: .int i :: .ref (z + k) :: rest)) :=
  g_iast C hP hS (σ' := (up σ k i.toNatClampNeg x)) (τ' := τ) (n := 48) (f := σ k) (by rw [hk]; decide) (ent_7 hk) hin (by rw [ent_7 hk]; congr 4; funext q; simp [upd, up]) (fun i hi => (ent_up_ne hi).symm) hdg kk
theorem ln_7 {own : String} (C : Bd p s m args meth c cc nl rt own D cy z) (hP : WP D cy z σ τ o d H) {k : Nat} (hk : kd k = 7) (hdg : decode cc pc = .ok (.arraylength, 1)) (kk : W p l e Rm s m args below meth c H locs cells slots Q (F0 m (pc + 1) ls (.int 48 :: rest))) : W p l e Rm s m args below meth c H locs cells slots Q (F0 m pc ls (.ref (z + k) :: rest)) :=
  g_alen C hP (t0 := 0) (by rw [hk]; decide) (ent_7 hk) rfl rfl hdg kk
theorem al_8 {own : String} (C : Bd p s m args meth c cc nl rt own D cy z) (hP : WP D cy z σ τ o d H) {k : Nat} {i : Int32} (hk : kd k = 8) (hin : vp_in i 80) (hdg : decode cc pc = .ok (.caload, 1)) (kk : W p l e Rm s m args below meth c H locs cells slots Q (F0 m (pc + 1) ls (.int (chr (σ k i.toNatClampNeg)) :: rest))) : W p l e Rm s m args below meth c H locs cells slots Q (F0 m pc ls (.int i :: .ref (z + k) :: rest)) :=
  g_cald C hP (n := 80) (f := (fun i => chr (σ k i))) (by rw [hk]; decide) (ent_8 hk) hin hdg kk
theorem as_8 {own : String} (C : Bd p s m args meth c cc nl rt own D cy z) (hP : WP D cy z σ τ o d H) (hS : va_S (fz z) s.heap H locs) {k : Nat} {i x : Int32} (hk : kd k = 8) (hin : vp_in i 80) (hdg : decode cc pc = .ok (.castore, 1)) (kk : ∀ (H1 : Heap) (locs1 : List Loc), WP D cy z (up σ k i.toNatClampNeg x) τ o d H1 → va_S (fz z) s.heap H1 locs1 → W p l e Rm s m args below meth c H1 locs1 cells slots Q (F0 m (pc + 1) ls rest)) : W p l e Rm s m args below meth c H locs cells slots Q (F0 m pc ls (.int x :: .int i :: .ref (z + k) :: rest)) :=
  g_cast C hP hS (σ' := (up σ k i.toNatClampNeg x)) (τ' := τ) (n := 80) (f := (fun i => chr (σ k i))) (by rw [hk]; decide) (ent_8 hk) hin (by rw [ent_8 hk]; congr 4; funext q; by_cases hq : q = i.toNatClampNeg <;> simp [upd, up, hq, chr_nar]) (fun i hi => (ent_up_ne hi).symm) hdg kk
theorem ln_8 {own : String} (C : Bd p s m args meth c cc nl rt own D cy z) (hP : WP D cy z σ τ o d H) {k : Nat} (hk : kd k = 8) (hdg : decode cc pc = .ok (.arraylength, 1)) (kk : W p l e Rm s m args below meth c H locs cells slots Q (F0 m (pc + 1) ls (.int 80 :: rest))) : W p l e Rm s m args below meth c H locs cells slots Q (F0 m pc ls (.ref (z + k) :: rest)) :=
  g_alen C hP (t0 := 1) (by rw [hk]; decide) (ent_8 hk) rfl rfl hdg kk
theorem g_abs {own : String} (C : Bd p s m args meth c cc nl rt own D cy z) {idx : Nat} (ml : Cond.methodLink own idx Lib.Math.abs.name ∈ WA) (hf : 1 ≤ Rm.frames) (hlo : (rest.map fun v => v.category).sum + 13 ≤ Rm.locals) (hcs : cells ≤ Rm.cells ∧ slots ≤ Rm.slots) (hsz : ls.size = nl) {x : Int32} (hdg : decode cc pc = .ok (.invokestatic idx, 3))
    (kk : W p l e Rm s m args below meth c H locs cells slots Q (F0 m (pc + 3) ls (.int (ab x) :: rest))) : W p l e Rm s m args below meth c H locs cells slots Q (F0 m pc ls (.int x :: rest)) := by
  obtain ⟨hx, hb, hr, hml, hown, hW, hlocks, hAm⟩ := C
  exact va_mabs hx hb (by rw [hml, hsz]) hown (hW _ ml) (hW _ (mA2 (i := 98) rfl rfl)) (hW _ (mA1 (i := 12) rfl rfl)) (hW _ (mA2 (i := 99) rfl rfl)) hf hlo hcs.1 hcs.2 hdg kk
end Fields
end
section
theorem cw_J9_floorDiv_7cf53 : cwSt yJ9_floorDiv_7cf53 cJ9_floorDiv_7cf53 3 (some .int) 2 := ⟨(mA3 (i := 50) rfl rfl), (mA1 (i := 12) rfl rfl), (mA3 (i := 51) rfl rfl), by decide +kernel⟩
abbrev rm_J9_floorDiv_7cf53 : Room := { frames := 0, cells := 0, slots := 0, locals := 0 }
def f_J9_floorDiv_7cf53  (x : Int32) (y : Int32) : Int32 :=
  if 0 ≤ (x ^^^ y) then
    x / y
  else
    if ((x / y) * y) = x then
      x / y
    else
      (x / y) - 1
set_option maxHeartbeats 4000000 in
set_option maxRecDepth 100000 in
theorem k_J9_floorDiv_7cf53 (l : Launch) (D : va_G) (cy : Nat → ClassId) (z : Nat) (o : Int64) (d : UInt64) (σ τ : Sg) (x : Int32) (y : Int32) (hne : ¬ y = 0) : KI l yJ9_floorDiv_7cf53 cJ9_floorDiv_7cf53 3 (some .int) rm_J9_floorDiv_7cf53 D cy z [.int x, .int y] o d σ τ (f_J9_floorDiv_7cf53 x y) σ τ := by
  refine met_of RJ9 (by decide +kernel) rfl (Nat.le_of_ble_eq_true rfl) ?_
  intro p e s m args below meth c C hP hS ls hl
  obtain ⟨hx, hb, hr, hml, hown, hW, hlocks, hAm⟩ := id C
  have hl : lv_has ls 3 [(0, .int x), (1, .int y)] := hl
  refine lv_iload_n hx hb dJ9_floorDiv_7cf53_0 rfl (lv_at hl 0 rfl) ?_
  refine lv_iload_n hx hb dJ9_floorDiv_7cf53_1 rfl (lv_at hl 1 rfl) ?_
  refine lv_idiv hx hb dJ9_floorDiv_7cf53_2 hne ?_
  refine lv_istore_n (lv' := [(2, .int (x / y)), (0, .int x), (1, .int y)]) hx hb dJ9_floorDiv_7cf53_3 rfl hl (by decide) rfl (fun ls hl => ?_)
  refine lv_iload_n hx hb dJ9_floorDiv_7cf53_4 rfl (lv_at hl 1 rfl) ?_
  refine lv_iload_n hx hb dJ9_floorDiv_7cf53_5 rfl (lv_at hl 2 rfl) ?_
  refine lv_ixor hx hb dJ9_floorDiv_7cf53_6 ?_
  refine lv_if_ge (tgt := 21) hx hb dJ9_floorDiv_7cf53_7 (by decide) (fun c_7 => ?_) (fun c_7 => ?_)
  · refine lv_iload_n hx hb dJ9_floorDiv_7cf53_21 rfl (lv_at hl 0 rfl) ?_
    exact ret_I C hP hS (nar_i _) rfl (by unfold f_J9_floorDiv_7cf53; rw [if_pos c_7]) rfl rfl dJ9_floorDiv_7cf53_22
  · refine lv_iload_n hx hb dJ9_floorDiv_7cf53_10 rfl (lv_at hl 0 rfl) ?_
    refine lv_iload_n hx hb dJ9_floorDiv_7cf53_11 rfl (lv_at hl 2 rfl) ?_
    refine lv_imul hx hb dJ9_floorDiv_7cf53_12 ?_
    refine lv_iload_n hx hb dJ9_floorDiv_7cf53_13 rfl (lv_at hl 1 rfl) ?_
    refine lv_icmp_eq (tgt := 21) hx hb dJ9_floorDiv_7cf53_14 (by decide) (fun c_14 => ?_) (fun c_14 => ?_)
    · refine lv_iload_n hx hb dJ9_floorDiv_7cf53_21 rfl (lv_at hl 0 rfl) ?_
      exact ret_I C hP hS (nar_i _) rfl (by unfold f_J9_floorDiv_7cf53; rw [if_neg c_7, if_pos c_14]) rfl rfl dJ9_floorDiv_7cf53_22
    · refine lv_iload_n hx hb dJ9_floorDiv_7cf53_17 rfl (lv_at hl 0 rfl) ?_
      refine lv_iconst (v := 1) hx hb dJ9_floorDiv_7cf53_18 (by decide) ?_
      refine lv_isub hx hb dJ9_floorDiv_7cf53_19 ?_
      exact ret_I C hP hS (nar_i _) rfl (by unfold f_J9_floorDiv_7cf53; rw [if_neg c_7, if_neg c_14]) rfl rfl dJ9_floorDiv_7cf53_20

theorem cw_J9_floorMod_7cf53 : cwSt yJ9_floorMod_7cf53 cJ9_floorMod_7cf53 3 (some .int) 2 := ⟨(mA2 (i := 207) rfl rfl), (mA1 (i := 12) rfl rfl), (mA2 (i := 208) rfl rfl), by decide +kernel⟩
abbrev rm_J9_floorMod_7cf53 : Room := { frames := 0, cells := 0, slots := 0, locals := 0 }
def f_J9_floorMod_7cf53  (x : Int32) (y : Int32) : Int32 :=
  if 0 ≤ (x ^^^ y) then
    x - x / y * y
  else
    if (x - x / y * y) = 0 then
      x - x / y * y
    else
      (x - x / y * y) + y
set_option maxHeartbeats 4000000 in
set_option maxRecDepth 100000 in
theorem k_J9_floorMod_7cf53 (l : Launch) (D : va_G) (cy : Nat → ClassId) (z : Nat) (o : Int64) (d : UInt64) (σ τ : Sg) (x : Int32) (y : Int32) (hne : ¬ y = 0) : KI l yJ9_floorMod_7cf53 cJ9_floorMod_7cf53 3 (some .int) rm_J9_floorMod_7cf53 D cy z [.int x, .int y] o d σ τ (f_J9_floorMod_7cf53 x y) σ τ := by
  refine met_of RJ9 (by decide +kernel) rfl (Nat.le_of_ble_eq_true rfl) ?_
  intro p e s m args below meth c C hP hS ls hl
  obtain ⟨hx, hb, hr, hml, hown, hW, hlocks, hAm⟩ := id C
  have hl : lv_has ls 3 [(0, .int x), (1, .int y)] := hl
  refine lv_iload_n hx hb dJ9_floorMod_7cf53_0 rfl (lv_at hl 0 rfl) ?_
  refine lv_iload_n hx hb dJ9_floorMod_7cf53_1 rfl (lv_at hl 1 rfl) ?_
  refine lv_irem hx hb dJ9_floorMod_7cf53_2 hne ?_
  refine lv_istore_n (lv' := [(2, .int (x - x / y * y)), (0, .int x), (1, .int y)]) hx hb dJ9_floorMod_7cf53_3 rfl hl (by decide) rfl (fun ls hl => ?_)
  refine lv_iload_n hx hb dJ9_floorMod_7cf53_4 rfl (lv_at hl 1 rfl) ?_
  refine lv_iload_n hx hb dJ9_floorMod_7cf53_5 rfl (lv_at hl 2 rfl) ?_
  refine lv_ixor hx hb dJ9_floorMod_7cf53_6 ?_
  refine lv_if_ge (tgt := 18) hx hb dJ9_floorMod_7cf53_7 (by decide) (fun c_7 => ?_) (fun c_7 => ?_)
  · refine lv_iload_n hx hb dJ9_floorMod_7cf53_18 rfl (lv_at hl 0 rfl) ?_
    exact ret_I C hP hS (nar_i _) rfl (by unfold f_J9_floorMod_7cf53; rw [if_pos c_7]) rfl rfl dJ9_floorMod_7cf53_19
  · refine lv_iload_n hx hb dJ9_floorMod_7cf53_10 rfl (lv_at hl 0 rfl) ?_
    refine lv_if_eq (tgt := 18) hx hb dJ9_floorMod_7cf53_11 (by decide) (fun c_11 => ?_) (fun c_11 => ?_)
    · refine lv_iload_n hx hb dJ9_floorMod_7cf53_18 rfl (lv_at hl 0 rfl) ?_
      exact ret_I C hP hS (nar_i _) rfl (by unfold f_J9_floorMod_7cf53; rw [if_neg c_7, if_pos c_11]) rfl rfl dJ9_floorMod_7cf53_19
    · refine lv_iload_n hx hb dJ9_floorMod_7cf53_14 rfl (lv_at hl 0 rfl) ?_
      refine lv_iload_n hx hb dJ9_floorMod_7cf53_15 rfl (lv_at hl 2 rfl) ?_
      refine lv_iadd hx hb dJ9_floorMod_7cf53_16 ?_
      exact ret_I C hP hS (nar_i _) rfl (by unfold f_J9_floorMod_7cf53; rw [if_neg c_7, if_neg c_11]) rfl rfl dJ9_floorMod_7cf53_17

theorem cw_X1_rowOf : cwVt yX1_rowOf cX1_rowOf 2 (some .int) 1 1 := ⟨(mA2 (i := 154) rfl rfl), (mA0 (i := 3) rfl rfl), (mA1 (i := 4) rfl rfl), (mA2 (i := 155) rfl rfl), by decide +kernel, ⟨_, rfl, rfl⟩, by decide⟩
abbrev rm_X1_rowOf : Room := { frames := 0, cells := 0, slots := 0, locals := 0 }
def f_X1_rowOf (σ : Sg) (k : Nat) (x : Int32) : Int32 :=
  (((σ k 1) + x) - ((σ k 1) + x) / 16 * 16) * 3
set_option maxHeartbeats 4000000 in
set_option maxRecDepth 100000 in
theorem k_X1_rowOf (l : Launch) (D : va_G) (cy : Nat → ClassId) (z : Nat) (o : Int64) (d : UInt64) (σ τ : Sg) {k : Nat} (hk : kd k = 1) (x : Int32) : KI l yX1_rowOf cX1_rowOf 2 (some .int) rm_X1_rowOf D cy z [.ref (z + k), .int x] o d σ τ (f_X1_rowOf σ k x) σ τ := by
  refine met_of RX1 (plainFor_of_name (by decide)) rfl (Nat.le_of_ble_eq_true rfl) ?_
  intro p e s m args below meth c C hP hS ls hl
  obtain ⟨hx, hb, hr, hml, hown, hW, hlocks, hAm⟩ := id C
  have hl : lv_has ls 2 [(0, .ref (z + k)), (1, .int x)] := hl
  refine lv_aload_n hx hb dX1_rowOf_0 rfl (lv_at hl 0 rfl) ?_
  refine gf_X1_19 C hP hk dX1_rowOf_1 ?_
  refine lv_iload_n hx hb dX1_rowOf_4 rfl (lv_at hl 1 rfl) ?_
  refine lv_iadd hx hb dX1_rowOf_5 ?_
  refine lv_bipush (v := 16) hx hb dX1_rowOf_6 (by decide) ?_
  refine lv_irem hx hb dX1_rowOf_8 (by decide) ?_
  refine lv_iconst (v := 3) hx hb dX1_rowOf_9 (by decide) ?_
  refine lv_imul hx hb dX1_rowOf_10 ?_
  exact ret_I C hP hS (nar_i _) rfl rfl rfl rfl dX1_rowOf_11

theorem cw_X1_read : cwVt yX1_read cX1_read 4 (some .int) 1 2 := ⟨(mA2 (i := 183) rfl rfl), (mA0 (i := 7) rfl rfl), (mA1 (i := 4) rfl rfl), (mA2 (i := 184) rfl rfl), by decide +kernel, ⟨_, rfl, rfl⟩, by decide⟩
abbrev rm_X1_read : Room := { frames := 1, cells := 0, slots := 0, locals := 21 }
def f_X1_read (σ : Sg) (k : Nat) (x : Int32) (y : Int32) : Int32 :=
  if ((f_X1_rowOf σ k x) + y) < 0 then
    0
  else
    if ((f_X1_rowOf σ k x) + y) < 48 then
      σ (k + 1) (((f_X1_rowOf σ k x) + y).toNatClampNeg)
    else
      0
set_option maxHeartbeats 4000000 in
set_option maxRecDepth 100000 in
theorem k_X1_read (l : Launch) (D : va_G) (cy : Nat → ClassId) (z : Nat) (o : Int64) (d : UInt64) (σ τ : Sg) {k : Nat} (hk : kd k = 1) (x : Int32) (y : Int32) : KI l yX1_read cX1_read 4 (some .int) rm_X1_read D cy z [.ref (z + k), .int x, .int y] o d σ τ (f_X1_read σ k x y) σ τ := by
  refine met_of RX1 (plainFor_of_name (by decide)) rfl (Nat.le_of_ble_eq_true rfl) ?_
  intro p e s m args below meth c C hP hS ls hl
  obtain ⟨hx, hb, hr, hml, hown, hW, hlocks, hAm⟩ := id C
  have hl : lv_has ls 4 [(0, .ref (z + k)), (1, .int x), (2, .int y)] := hl
  refine lv_aload_n hx hb dX1_read_0 rfl (lv_at hl 0 rfl) ?_
  refine lv_iload_n hx hb dX1_read_1 rfl (lv_at hl 1 rfl) ?_
  refine thn_I (run_V (As := [.int x]) (rest := []) C (k_X1_rowOf l D cy z o d σ τ hk x) hP hS cw_X1_rowOf (mA2 (i := 152) rfl rfl) hk ⟨rfl, rfl⟩ ⟨Nat.le_of_ble_eq_true rfl, Nat.le_of_ble_eq_true rfl⟩ rfl (Nat.le_of_ble_eq_true rfl) hl.1 ⟨Nat.zero_le _, Nat.zero_le _⟩ dX1_read_2) hS (fun H locs hP hS => ?_)
  refine lv_iload_n hx hb dX1_read_5 rfl (lv_at hl 2 rfl) ?_
  refine lv_iadd hx hb dX1_read_6 ?_
  refine lv_istore_n (lv' := [(3, .int ((f_X1_rowOf σ k x) + y)), (0, .ref (z + k)), (1, .int x), (2, .int y)]) hx hb dX1_read_7 rfl hl (by decide) rfl (fun ls hl => ?_)
  refine lv_iload_n hx hb dX1_read_8 rfl (lv_at hl 0 rfl) ?_
  refine lv_if_lt (tgt := 21) hx hb dX1_read_9 (by decide) (fun c_9 => ?_) (fun c_9 => ?_)
  · refine lv_iconst (v := 0) hx hb dX1_read_21 (by decide) ?_
    refine lv_goto (tgt := 31) hx hb dX1_read_22 (by decide) ?_
    exact ret_I C hP hS (nar_i _) rfl (by unfold f_X1_read; rw [if_pos c_9]) rfl rfl dX1_read_31
  · refine lv_iload_n hx hb dX1_read_12 rfl (lv_at hl 0 rfl) ?_
    refine lv_aload_n hx hb dX1_read_13 rfl (lv_at hl 1 rfl) ?_
    refine gf_X1_11 C hP hk dX1_read_14 ?_
    refine ln_7 C hP (kd1_1 hk) dX1_read_17 ?_
    refine lv_icmp_lt (tgt := 25) hx hb dX1_read_18 (by decide) (fun c_18 => ?_) (fun c_18 => ?_)
    · refine lv_aload_n hx hb dX1_read_25 rfl (lv_at hl 1 rfl) ?_
      refine gf_X1_11 C hP hk dX1_read_26 ?_
      refine lv_iload_n hx hb dX1_read_29 rfl (lv_at hl 0 rfl) ?_
      refine al_7 C hP (kd1_1 hk) (vpin_of' c_9 c_18 (by decide)) dX1_read_30 ?_
      exact ret_I C hP hS (nar_i _) rfl (by unfold f_X1_read; rw [if_neg c_9, if_pos c_18]) rfl rfl dX1_read_31
    · refine lv_iconst (v := 0) hx hb dX1_read_21 (by decide) ?_
      refine lv_goto (tgt := 31) hx hb dX1_read_22 (by decide) ?_
      exact ret_I C hP hS (nar_i _) rfl (by unfold f_X1_read; rw [if_neg c_9, if_neg c_18]) rfl rfl dX1_read_31

theorem cw_X1_step : cwVt yX1_step cX1_step 2 (some .int) 1 1 := ⟨(mA2 (i := 178) rfl rfl), (mA2 (i := 179) rfl rfl), (mA1 (i := 4) rfl rfl), (mA2 (i := 180) rfl rfl), by decide +kernel, ⟨_, rfl, rfl⟩, by decide⟩
abbrev rm_X1_step : Room := { frames := 2, cells := 0, slots := 0, locals := 44 }
def f_X1_step (σ : Sg) (k : Nat) (x : Int32) : Int32 :=
  f_X1_read σ k x 0
set_option maxHeartbeats 4000000 in
set_option maxRecDepth 100000 in
theorem k_X1_step (l : Launch) (D : va_G) (cy : Nat → ClassId) (z : Nat) (o : Int64) (d : UInt64) (σ τ : Sg) {k : Nat} (hk : kd k = 1) (x : Int32) : KI l yX1_step cX1_step 2 (some .int) rm_X1_step D cy z [.ref (z + k), .int x] o d σ τ (f_X1_step σ k x) σ τ := by
  refine met_of RX1 (plainFor_of_name (by decide)) rfl (Nat.le_of_ble_eq_true rfl) ?_
  intro p e s m args below meth c C hP hS ls hl
  obtain ⟨hx, hb, hr, hml, hown, hW, hlocks, hAm⟩ := id C
  have hl : lv_has ls 2 [(0, .ref (z + k)), (1, .int x)] := hl
  refine lv_aload_n hx hb dX1_step_0 rfl (lv_at hl 0 rfl) ?_
  refine lv_iload_n hx hb dX1_step_1 rfl (lv_at hl 1 rfl) ?_
  refine lv_iconst (v := 0) hx hb dX1_step_2 (by decide) ?_
  refine thn_I (run_V (As := [.int x, .int 0]) (rest := []) C (k_X1_read l D cy z o d σ τ hk x 0) hP hS cw_X1_read (mA2 (i := 181) rfl rfl) hk ⟨rfl, rfl⟩ ⟨Nat.le_of_ble_eq_true rfl, Nat.le_of_ble_eq_true rfl⟩ rfl (Nat.le_of_ble_eq_true rfl) hl.1 ⟨Nat.zero_le _, Nat.zero_le _⟩ dX1_step_3) hS (fun H locs hP hS => ?_)
  exact ret_I C hP hS (nar_i _) rfl rfl rfl rfl dX1_step_6

theorem cw_X1_spent : cwVt yX1_spent cX1_spent 2 (some .int) 1 1 := ⟨(mA3 (i := 3) rfl rfl), (mA3 (i := 4) rfl rfl), (mA1 (i := 4) rfl rfl), (mA3 (i := 5) rfl rfl), by decide +kernel, ⟨_, rfl, rfl⟩, by decide⟩
abbrev rm_X1_spent : Room := { frames := 2, cells := 0, slots := 0, locals := 44 }
def f_X1_spent (σ : Sg) (k : Nat) (x : Int32) : Int32 :=
  f_X1_read σ k x 1
set_option maxHeartbeats 4000000 in
set_option maxRecDepth 100000 in
theorem k_X1_spent (l : Launch) (D : va_G) (cy : Nat → ClassId) (z : Nat) (o : Int64) (d : UInt64) (σ τ : Sg) {k : Nat} (hk : kd k = 1) (x : Int32) : KI l yX1_spent cX1_spent 2 (some .int) rm_X1_spent D cy z [.ref (z + k), .int x] o d σ τ (f_X1_spent σ k x) σ τ := by
  refine met_of RX1 (plainFor_of_name (by decide)) rfl (Nat.le_of_ble_eq_true rfl) ?_
  intro p e s m args below meth c C hP hS ls hl
  obtain ⟨hx, hb, hr, hml, hown, hW, hlocks, hAm⟩ := id C
  have hl : lv_has ls 2 [(0, .ref (z + k)), (1, .int x)] := hl
  refine lv_aload_n hx hb dX1_spent_0 rfl (lv_at hl 0 rfl) ?_
  refine lv_iload_n hx hb dX1_spent_1 rfl (lv_at hl 1 rfl) ?_
  refine lv_iconst (v := 1) hx hb dX1_spent_2 (by decide) ?_
  refine thn_I (run_V (As := [.int x, .int 1]) (rest := []) C (k_X1_read l D cy z o d σ τ hk x 1) hP hS cw_X1_read (mA2 (i := 181) rfl rfl) hk ⟨rfl, rfl⟩ ⟨Nat.le_of_ble_eq_true rfl, Nat.le_of_ble_eq_true rfl⟩ rfl (Nat.le_of_ble_eq_true rfl) hl.1 ⟨Nat.zero_le _, Nat.zero_le _⟩ dX1_spent_3) hS (fun H locs hP hS => ?_)
  exact ret_I C hP hS (nar_i _) rfl rfl rfl rfl dX1_spent_6

theorem cw_X1_before : cwVt yX1_before cX1_before 2 (some .int) 1 1 := ⟨(mA3 (i := 14) rfl rfl), (mA3 (i := 15) rfl rfl), (mA1 (i := 4) rfl rfl), (mA3 (i := 16) rfl rfl), by decide +kernel, ⟨_, rfl, rfl⟩, by decide⟩
abbrev rm_X1_before : Room := { frames := 2, cells := 0, slots := 0, locals := 44 }
def f_X1_before (σ : Sg) (k : Nat) (x : Int32) : Int32 :=
  f_X1_read σ k x 2
set_option maxHeartbeats 4000000 in
set_option maxRecDepth 100000 in
theorem k_X1_before (l : Launch) (D : va_G) (cy : Nat → ClassId) (z : Nat) (o : Int64) (d : UInt64) (σ τ : Sg) {k : Nat} (hk : kd k = 1) (x : Int32) : KI l yX1_before cX1_before 2 (some .int) rm_X1_before D cy z [.ref (z + k), .int x] o d σ τ (f_X1_before σ k x) σ τ := by
  refine met_of RX1 (plainFor_of_name (by decide)) rfl (Nat.le_of_ble_eq_true rfl) ?_
  intro p e s m args below meth c C hP hS ls hl
  obtain ⟨hx, hb, hr, hml, hown, hW, hlocks, hAm⟩ := id C
  have hl : lv_has ls 2 [(0, .ref (z + k)), (1, .int x)] := hl
  refine lv_aload_n hx hb dX1_before_0 rfl (lv_at hl 0 rfl) ?_
  refine lv_iload_n hx hb dX1_before_1 rfl (lv_at hl 1 rfl) ?_
  refine lv_iconst (v := 2) hx hb dX1_before_2 (by decide) ?_
  refine thn_I (run_V (As := [.int x, .int 2]) (rest := []) C (k_X1_read l D cy z o d σ τ hk x 2) hP hS cw_X1_read (mA2 (i := 181) rfl rfl) hk ⟨rfl, rfl⟩ ⟨Nat.le_of_ble_eq_true rfl, Nat.le_of_ble_eq_true rfl⟩ rfl (Nat.le_of_ble_eq_true rfl) hl.1 ⟨Nat.zero_le _, Nat.zero_le _⟩ dX1_before_3) hS (fun H locs hP hS => ?_)
  exact ret_I C hP hS (nar_i _) rfl rfl rfl rfl dX1_before_6

theorem cw_X1_write : cwVt yX1_write cX1_write 3 none 1 2 := ⟨(mA2 (i := 158) rfl rfl), (mA0 (i := 4) rfl rfl), (mA1 (i := 4) rfl rfl), (mA2 (i := 159) rfl rfl), by decide +kernel, ⟨_, rfl, rfl⟩, by decide⟩
abbrev rm_X1_write : Room := { frames := 0, cells := 0, slots := 0, locals := 0 }
def s_X1_write (σ : Sg) (k : Nat) (x : Int32) (y : Int32) : Sg :=
  if x < 0 then
    σ
  else
    if 48 ≤ x then
      σ
    else
      up σ (k + 1) (x.toNatClampNeg) y
set_option maxHeartbeats 4000000 in
set_option maxRecDepth 100000 in
theorem k_X1_write (l : Launch) (D : va_G) (cy : Nat → ClassId) (z : Nat) (o : Int64) (d : UInt64) (σ τ : Sg) {k : Nat} (hk : kd k = 1) (x : Int32) (y : Int32) : KV l yX1_write cX1_write 3 rm_X1_write D cy z [.ref (z + k), .int x, .int y] o d σ τ (s_X1_write σ k x y) τ := by
  refine met_of RX1 (plainFor_of_name (by decide)) rfl (Nat.le_of_ble_eq_true rfl) ?_
  intro p e s m args below meth c C hP hS ls hl
  obtain ⟨hx, hb, hr, hml, hown, hW, hlocks, hAm⟩ := id C
  have hl : lv_has ls 3 [(0, .ref (z + k)), (1, .int x), (2, .int y)] := hl
  refine lv_iload_n hx hb dX1_write_0 rfl (lv_at hl 1 rfl) ?_
  refine lv_if_lt (tgt := 20) hx hb dX1_write_1 (by decide) (fun c_1 => ?_) (fun c_1 => ?_)
  · exact ret_V C hP hS (by unfold s_X1_write; rw [if_pos c_1]) rfl dX1_write_20
  · refine lv_iload_n hx hb dX1_write_4 rfl (lv_at hl 1 rfl) ?_
    refine lv_aload_n hx hb dX1_write_5 rfl (lv_at hl 0 rfl) ?_
    refine gf_X1_11 C hP hk dX1_write_6 ?_
    refine ln_7 C hP (kd1_1 hk) dX1_write_9 ?_
    refine lv_icmp_ge (tgt := 20) hx hb dX1_write_10 (by decide) (fun c_10 => ?_) (fun c_10 => ?_)
    · exact ret_V C hP hS (by unfold s_X1_write; rw [if_neg c_1, if_pos c_10]) rfl dX1_write_20
    · refine lv_aload_n hx hb dX1_write_13 rfl (lv_at hl 0 rfl) ?_
      refine gf_X1_11 C hP hk dX1_write_14 ?_
      refine lv_iload_n hx hb dX1_write_17 rfl (lv_at hl 1 rfl) ?_
      refine lv_iload_n hx hb dX1_write_18 rfl (lv_at hl 2 rfl) ?_
      refine as_7 C hP hS (kd1_1 hk) (vpin_of c_1 c_10 (by decide)) dX1_write_19 (fun H locs hP hS => ?_)
      exact ret_V C hP hS (by unfold s_X1_write; rw [if_neg c_1, if_neg c_10]) rfl dX1_write_20

theorem cw_X1_add : cwVt yX1_add cX1_add 5 none 1 3 := ⟨(mA2 (i := 149) rfl rfl), (mA2 (i := 150) rfl rfl), (mA1 (i := 4) rfl rfl), (mA2 (i := 151) rfl rfl), by decide +kernel, ⟨_, rfl, rfl⟩, by decide⟩
abbrev rm_X1_add : Room := { frames := 1, cells := 0, slots := 0, locals := 22 }
def s_X1_add (σ : Sg) (k : Nat) (x : Int32) (y : Int32) (w : Int32) : Sg :=
  if 16 ≤ (σ k 2) then
    s_X1_write (s_X1_write (s_X1_write (up σ k 1 (((σ k 1) + 1) - ((σ k 1) + 1) / 16 * 16)) k ((f_X1_rowOf (up σ k 1 (((σ k 1) + 1) - ((σ k 1) + 1) / 16 * 16)) k (((up σ k 1 (((σ k 1) + 1) - ((σ k 1) + 1) / 16 * 16)) k 2) - 1)) + 0) x) k ((f_X1_rowOf (up σ k 1 (((σ k 1) + 1) - ((σ k 1) + 1) / 16 * 16)) k (((up σ k 1 (((σ k 1) + 1) - ((σ k 1) + 1) / 16 * 16)) k 2) - 1)) + 1) y) k ((f_X1_rowOf (up σ k 1 (((σ k 1) + 1) - ((σ k 1) + 1) / 16 * 16)) k (((up σ k 1 (((σ k 1) + 1) - ((σ k 1) + 1) / 16 * 16)) k 2) - 1)) + 2) w
  else
    s_X1_write (s_X1_write (s_X1_write (up σ k 2 ((σ k 2) + 1)) k ((f_X1_rowOf (up σ k 2 ((σ k 2) + 1)) k (((up σ k 2 ((σ k 2) + 1)) k 2) - 1)) + 0) x) k ((f_X1_rowOf (up σ k 2 ((σ k 2) + 1)) k (((up σ k 2 ((σ k 2) + 1)) k 2) - 1)) + 1) y) k ((f_X1_rowOf (up σ k 2 ((σ k 2) + 1)) k (((up σ k 2 ((σ k 2) + 1)) k 2) - 1)) + 2) w
set_option maxHeartbeats 4000000 in
set_option maxRecDepth 100000 in
theorem k_X1_add (l : Launch) (D : va_G) (cy : Nat → ClassId) (z : Nat) (o : Int64) (d : UInt64) (σ τ : Sg) {k : Nat} (hk : kd k = 1) (x : Int32) (y : Int32) (w : Int32) : KV l yX1_add cX1_add 5 rm_X1_add D cy z [.ref (z + k), .int x, .int y, .int w] o d σ τ (s_X1_add σ k x y w) τ := by
  refine met_of RX1 (plainFor_of_name (by decide)) rfl (Nat.le_of_ble_eq_true rfl) ?_
  intro p e s m args below meth c C hP hS ls hl
  obtain ⟨hx, hb, hr, hml, hown, hW, hlocks, hAm⟩ := id C
  have hl : lv_has ls 5 [(0, .ref (z + k)), (1, .int x), (2, .int y), (3, .int w)] := hl
  refine lv_aload_n hx hb dX1_add_0 rfl (lv_at hl 0 rfl) ?_
  refine gf_X1_15 C hP hk dX1_add_1 ?_
  refine lv_bipush (v := 16) hx hb dX1_add_4 (by decide) ?_
  refine lv_icmp_ge (tgt := 22) hx hb dX1_add_6 (by decide) (fun c_6 => ?_) (fun c_6 => ?_)
  · refine lv_aload_n hx hb dX1_add_22 rfl (lv_at hl 0 rfl) ?_
    refine lv_aload_n hx hb dX1_add_23 rfl (lv_at hl 0 rfl) ?_
    refine gf_X1_19 C hP hk dX1_add_24 ?_
    refine lv_iconst (v := 1) hx hb dX1_add_27 (by decide) ?_
    refine lv_iadd hx hb dX1_add_28 ?_
    refine lv_bipush (v := 16) hx hb dX1_add_29 (by decide) ?_
    refine lv_irem hx hb dX1_add_31 (by decide) ?_
    refine pf_X1_19 C hP hS hk dX1_add_32 (fun H locs hP hS => ?_)
    refine lv_aload_n hx hb dX1_add_35 rfl (lv_at hl 0 rfl) ?_
    refine lv_aload_n hx hb dX1_add_36 rfl (lv_at hl 0 rfl) ?_
    refine gf_X1_15 C hP hk dX1_add_37 ?_
    refine lv_iconst (v := 1) hx hb dX1_add_40 (by decide) ?_
    refine lv_isub hx hb dX1_add_41 ?_
    refine thn_I (run_V (As := [.int (((up σ k 1 (((σ k 1) + 1) - ((σ k 1) + 1) / 16 * 16)) k 2) - 1)]) (rest := []) C (k_X1_rowOf l D cy z o d (up σ k 1 (((σ k 1) + 1) - ((σ k 1) + 1) / 16 * 16)) τ hk (((up σ k 1 (((σ k 1) + 1) - ((σ k 1) + 1) / 16 * 16)) k 2) - 1)) hP hS cw_X1_rowOf (mA2 (i := 152) rfl rfl) hk ⟨rfl, rfl⟩ ⟨Nat.le_of_ble_eq_true rfl, Nat.le_of_ble_eq_true rfl⟩ rfl (Nat.le_of_ble_eq_true rfl) hl.1 ⟨Nat.zero_le _, Nat.zero_le _⟩ dX1_add_42) hS (fun H locs hP hS => ?_)
    refine lv_istore (lv' := [(4, .int (f_X1_rowOf (up σ k 1 (((σ k 1) + 1) - ((σ k 1) + 1) / 16 * 16)) k (((up σ k 1 (((σ k 1) + 1) - ((σ k 1) + 1) / 16 * 16)) k 2) - 1))), (0, .ref (z + k)), (1, .int x), (2, .int y), (3, .int w)]) hx hb dX1_add_45 hl (by decide) rfl (fun ls hl => ?_)
    refine lv_aload_n hx hb dX1_add_47 rfl (lv_at hl 1 rfl) ?_
    refine lv_iload hx hb dX1_add_48 (lv_at hl 0 rfl) ?_
    refine lv_iconst (v := 0) hx hb dX1_add_50 (by decide) ?_
    refine lv_iadd hx hb dX1_add_51 ?_
    refine lv_iload_n hx hb dX1_add_52 rfl (lv_at hl 2 rfl) ?_
    refine thn_V (run_V (As := [.int ((f_X1_rowOf (up σ k 1 (((σ k 1) + 1) - ((σ k 1) + 1) / 16 * 16)) k (((up σ k 1 (((σ k 1) + 1) - ((σ k 1) + 1) / 16 * 16)) k 2) - 1)) + 0), .int x]) (rest := []) C (k_X1_write l D cy z o d (up σ k 1 (((σ k 1) + 1) - ((σ k 1) + 1) / 16 * 16)) τ hk ((f_X1_rowOf (up σ k 1 (((σ k 1) + 1) - ((σ k 1) + 1) / 16 * 16)) k (((up σ k 1 (((σ k 1) + 1) - ((σ k 1) + 1) / 16 * 16)) k 2) - 1)) + 0) x) hP hS cw_X1_write (mA2 (i := 156) rfl rfl) hk ⟨rfl, rfl⟩ ⟨Nat.le_of_ble_eq_true rfl, Nat.le_of_ble_eq_true rfl⟩ rfl (Nat.le_of_ble_eq_true rfl) hl.1 ⟨Nat.zero_le _, Nat.zero_le _⟩ dX1_add_53) hS (fun H locs hP hS => ?_)
    refine lv_aload_n hx hb dX1_add_56 rfl (lv_at hl 1 rfl) ?_
    refine lv_iload hx hb dX1_add_57 (lv_at hl 0 rfl) ?_
    refine lv_iconst (v := 1) hx hb dX1_add_59 (by decide) ?_
    refine lv_iadd hx hb dX1_add_60 ?_
    refine lv_iload_n hx hb dX1_add_61 rfl (lv_at hl 3 rfl) ?_
    refine thn_V (run_V (As := [.int ((f_X1_rowOf (up σ k 1 (((σ k 1) + 1) - ((σ k 1) + 1) / 16 * 16)) k (((up σ k 1 (((σ k 1) + 1) - ((σ k 1) + 1) / 16 * 16)) k 2) - 1)) + 1), .int y]) (rest := []) C (k_X1_write l D cy z o d (s_X1_write (up σ k 1 (((σ k 1) + 1) - ((σ k 1) + 1) / 16 * 16)) k ((f_X1_rowOf (up σ k 1 (((σ k 1) + 1) - ((σ k 1) + 1) / 16 * 16)) k (((up σ k 1 (((σ k 1) + 1) - ((σ k 1) + 1) / 16 * 16)) k 2) - 1)) + 0) x) τ hk ((f_X1_rowOf (up σ k 1 (((σ k 1) + 1) - ((σ k 1) + 1) / 16 * 16)) k (((up σ k 1 (((σ k 1) + 1) - ((σ k 1) + 1) / 16 * 16)) k 2) - 1)) + 1) y) hP hS cw_X1_write (mA2 (i := 156) rfl rfl) hk ⟨rfl, rfl⟩ ⟨Nat.le_of_ble_eq_true rfl, Nat.le_of_ble_eq_true rfl⟩ rfl (Nat.le_of_ble_eq_true rfl) hl.1 ⟨Nat.zero_le _, Nat.zero_le _⟩ dX1_add_62) hS (fun H locs hP hS => ?_)
    refine lv_aload_n hx hb dX1_add_65 rfl (lv_at hl 1 rfl) ?_
    refine lv_iload hx hb dX1_add_66 (lv_at hl 0 rfl) ?_
    refine lv_iconst (v := 2) hx hb dX1_add_68 (by decide) ?_
    refine lv_iadd hx hb dX1_add_69 ?_
    refine lv_iload_n hx hb dX1_add_70 rfl (lv_at hl 4 rfl) ?_
    refine thn_V (run_V (As := [.int ((f_X1_rowOf (up σ k 1 (((σ k 1) + 1) - ((σ k 1) + 1) / 16 * 16)) k (((up σ k 1 (((σ k 1) + 1) - ((σ k 1) + 1) / 16 * 16)) k 2) - 1)) + 2), .int w]) (rest := []) C (k_X1_write l D cy z o d (s_X1_write (s_X1_write (up σ k 1 (((σ k 1) + 1) - ((σ k 1) + 1) / 16 * 16)) k ((f_X1_rowOf (up σ k 1 (((σ k 1) + 1) - ((σ k 1) + 1) / 16 * 16)) k (((up σ k 1 (((σ k 1) + 1) - ((σ k 1) + 1) / 16 * 16)) k 2) - 1)) + 0) x) k ((f_X1_rowOf (up σ k 1 (((σ k 1) + 1) - ((σ k 1) + 1) / 16 * 16)) k (((up σ k 1 (((σ k 1) + 1) - ((σ k 1) + 1) / 16 * 16)) k 2) - 1)) + 1) y) τ hk ((f_X1_rowOf (up σ k 1 (((σ k 1) + 1) - ((σ k 1) + 1) / 16 * 16)) k (((up σ k 1 (((σ k 1) + 1) - ((σ k 1) + 1) / 16 * 16)) k 2) - 1)) + 2) w) hP hS cw_X1_write (mA2 (i := 156) rfl rfl) hk ⟨rfl, rfl⟩ ⟨Nat.le_of_ble_eq_true rfl, Nat.le_of_ble_eq_true rfl⟩ rfl (Nat.le_of_ble_eq_true rfl) hl.1 ⟨Nat.zero_le _, Nat.zero_le _⟩ dX1_add_71) hS (fun H locs hP hS => ?_)
    exact ret_V C hP hS (by unfold s_X1_add; rw [if_pos c_6]) rfl dX1_add_74
  · refine lv_aload_n hx hb dX1_add_9 rfl (lv_at hl 0 rfl) ?_
    refine lv_dup hx hb dX1_add_10 rfl ?_
    refine gf_X1_15 C hP hk dX1_add_11 ?_
    refine lv_iconst (v := 1) hx hb dX1_add_14 (by decide) ?_
    refine lv_iadd hx hb dX1_add_15 ?_
    refine pf_X1_15 C hP hS hk dX1_add_16 (fun H locs hP hS => ?_)
    refine lv_goto (tgt := 35) hx hb dX1_add_19 (by decide) ?_
    refine lv_aload_n hx hb dX1_add_35 rfl (lv_at hl 0 rfl) ?_
    refine lv_aload_n hx hb dX1_add_36 rfl (lv_at hl 0 rfl) ?_
    refine gf_X1_15 C hP hk dX1_add_37 ?_
    refine lv_iconst (v := 1) hx hb dX1_add_40 (by decide) ?_
    refine lv_isub hx hb dX1_add_41 ?_
    refine thn_I (run_V (As := [.int (((up σ k 2 ((σ k 2) + 1)) k 2) - 1)]) (rest := []) C (k_X1_rowOf l D cy z o d (up σ k 2 ((σ k 2) + 1)) τ hk (((up σ k 2 ((σ k 2) + 1)) k 2) - 1)) hP hS cw_X1_rowOf (mA2 (i := 152) rfl rfl) hk ⟨rfl, rfl⟩ ⟨Nat.le_of_ble_eq_true rfl, Nat.le_of_ble_eq_true rfl⟩ rfl (Nat.le_of_ble_eq_true rfl) hl.1 ⟨Nat.zero_le _, Nat.zero_le _⟩ dX1_add_42) hS (fun H locs hP hS => ?_)
    refine lv_istore (lv' := [(4, .int (f_X1_rowOf (up σ k 2 ((σ k 2) + 1)) k (((up σ k 2 ((σ k 2) + 1)) k 2) - 1))), (0, .ref (z + k)), (1, .int x), (2, .int y), (3, .int w)]) hx hb dX1_add_45 hl (by decide) rfl (fun ls hl => ?_)
    refine lv_aload_n hx hb dX1_add_47 rfl (lv_at hl 1 rfl) ?_
    refine lv_iload hx hb dX1_add_48 (lv_at hl 0 rfl) ?_
    refine lv_iconst (v := 0) hx hb dX1_add_50 (by decide) ?_
    refine lv_iadd hx hb dX1_add_51 ?_
    refine lv_iload_n hx hb dX1_add_52 rfl (lv_at hl 2 rfl) ?_
    refine thn_V (run_V (As := [.int ((f_X1_rowOf (up σ k 2 ((σ k 2) + 1)) k (((up σ k 2 ((σ k 2) + 1)) k 2) - 1)) + 0), .int x]) (rest := []) C (k_X1_write l D cy z o d (up σ k 2 ((σ k 2) + 1)) τ hk ((f_X1_rowOf (up σ k 2 ((σ k 2) + 1)) k (((up σ k 2 ((σ k 2) + 1)) k 2) - 1)) + 0) x) hP hS cw_X1_write (mA2 (i := 156) rfl rfl) hk ⟨rfl, rfl⟩ ⟨Nat.le_of_ble_eq_true rfl, Nat.le_of_ble_eq_true rfl⟩ rfl (Nat.le_of_ble_eq_true rfl) hl.1 ⟨Nat.zero_le _, Nat.zero_le _⟩ dX1_add_53) hS (fun H locs hP hS => ?_)
    refine lv_aload_n hx hb dX1_add_56 rfl (lv_at hl 1 rfl) ?_
    refine lv_iload hx hb dX1_add_57 (lv_at hl 0 rfl) ?_
    refine lv_iconst (v := 1) hx hb dX1_add_59 (by decide) ?_
    refine lv_iadd hx hb dX1_add_60 ?_
    refine lv_iload_n hx hb dX1_add_61 rfl (lv_at hl 3 rfl) ?_
    refine thn_V (run_V (As := [.int ((f_X1_rowOf (up σ k 2 ((σ k 2) + 1)) k (((up σ k 2 ((σ k 2) + 1)) k 2) - 1)) + 1), .int y]) (rest := []) C (k_X1_write l D cy z o d (s_X1_write (up σ k 2 ((σ k 2) + 1)) k ((f_X1_rowOf (up σ k 2 ((σ k 2) + 1)) k (((up σ k 2 ((σ k 2) + 1)) k 2) - 1)) + 0) x) τ hk ((f_X1_rowOf (up σ k 2 ((σ k 2) + 1)) k (((up σ k 2 ((σ k 2) + 1)) k 2) - 1)) + 1) y) hP hS cw_X1_write (mA2 (i := 156) rfl rfl) hk ⟨rfl, rfl⟩ ⟨Nat.le_of_ble_eq_true rfl, Nat.le_of_ble_eq_true rfl⟩ rfl (Nat.le_of_ble_eq_true rfl) hl.1 ⟨Nat.zero_le _, Nat.zero_le _⟩ dX1_add_62) hS (fun H locs hP hS => ?_)
    refine lv_aload_n hx hb dX1_add_65 rfl (lv_at hl 1 rfl) ?_
    refine lv_iload hx hb dX1_add_66 (lv_at hl 0 rfl) ?_
    refine lv_iconst (v := 2) hx hb dX1_add_68 (by decide) ?_
    refine lv_iadd hx hb dX1_add_69 ?_
    refine lv_iload_n hx hb dX1_add_70 rfl (lv_at hl 4 rfl) ?_
    refine thn_V (run_V (As := [.int ((f_X1_rowOf (up σ k 2 ((σ k 2) + 1)) k (((up σ k 2 ((σ k 2) + 1)) k 2) - 1)) + 2), .int w]) (rest := []) C (k_X1_write l D cy z o d (s_X1_write (s_X1_write (up σ k 2 ((σ k 2) + 1)) k ((f_X1_rowOf (up σ k 2 ((σ k 2) + 1)) k (((up σ k 2 ((σ k 2) + 1)) k 2) - 1)) + 0) x) k ((f_X1_rowOf (up σ k 2 ((σ k 2) + 1)) k (((up σ k 2 ((σ k 2) + 1)) k 2) - 1)) + 1) y) τ hk ((f_X1_rowOf (up σ k 2 ((σ k 2) + 1)) k (((up σ k 2 ((σ k 2) + 1)) k 2) - 1)) + 2) w) hP hS cw_X1_write (mA2 (i := 156) rfl rfl) hk ⟨rfl, rfl⟩ ⟨Nat.le_of_ble_eq_true rfl, Nat.le_of_ble_eq_true rfl⟩ rfl (Nat.le_of_ble_eq_true rfl) hl.1 ⟨Nat.zero_le _, Nat.zero_le _⟩ dX1_add_71) hS (fun H locs hP hS => ?_)
    exact ret_V C hP hS (by unfold s_X1_add; rw [if_neg c_6]) rfl dX1_add_74

theorem cw_X1_dropLatest : cwVt yX1_dropLatest cX1_dropLatest 1 none 1 0 := ⟨(mA3 (i := 18) rfl rfl), (mA3 (i := 19) rfl rfl), (mA1 (i := 4) rfl rfl), (mA3 (i := 20) rfl rfl), by decide +kernel, ⟨_, rfl, rfl⟩, by decide⟩
abbrev rm_X1_dropLatest : Room := { frames := 0, cells := 0, slots := 0, locals := 0 }
def s_X1_dropLatest (σ : Sg) (k : Nat) : Sg :=
  if (σ k 2) ≤ 0 then
    σ
  else
    up σ k 2 ((σ k 2) - 1)
set_option maxHeartbeats 4000000 in
set_option maxRecDepth 100000 in
theorem k_X1_dropLatest (l : Launch) (D : va_G) (cy : Nat → ClassId) (z : Nat) (o : Int64) (d : UInt64) (σ τ : Sg) {k : Nat} (hk : kd k = 1) : KV l yX1_dropLatest cX1_dropLatest 1 rm_X1_dropLatest D cy z [.ref (z + k)] o d σ τ (s_X1_dropLatest σ k) τ := by
  refine met_of RX1 (plainFor_of_name (by decide)) rfl (Nat.le_of_ble_eq_true rfl) ?_
  intro p e s m args below meth c C hP hS ls hl
  obtain ⟨hx, hb, hr, hml, hown, hW, hlocks, hAm⟩ := id C
  have hl : lv_has ls 1 [(0, .ref (z + k))] := hl
  refine lv_aload_n hx hb dX1_dropLatest_0 rfl (lv_at hl 0 rfl) ?_
  refine gf_X1_15 C hP hk dX1_dropLatest_1 ?_
  refine lv_if_le (tgt := 17) hx hb dX1_dropLatest_4 (by decide) (fun c_4 => ?_) (fun c_4 => ?_)
  · exact ret_V C hP hS (by unfold s_X1_dropLatest; rw [if_pos c_4]) rfl dX1_dropLatest_17
  · refine lv_aload_n hx hb dX1_dropLatest_7 rfl (lv_at hl 0 rfl) ?_
    refine lv_dup hx hb dX1_dropLatest_8 rfl ?_
    refine gf_X1_15 C hP hk dX1_dropLatest_9 ?_
    refine lv_iconst (v := 1) hx hb dX1_dropLatest_12 (by decide) ?_
    refine lv_isub hx hb dX1_dropLatest_13 ?_
    refine pf_X1_15 C hP hS hk dX1_dropLatest_14 (fun H locs hP hS => ?_)
    exact ret_V C hP hS (by unfold s_X1_dropLatest; rw [if_neg c_4]) rfl dX1_dropLatest_17
end
section
theorem cw_X4_ring : cwSt yX4_ring cX4_ring 1 (some .int) 1 := ⟨(mA2 (i := 62) rfl rfl), (mA1 (i := 3) rfl rfl), (mA2 (i := 63) rfl rfl), by decide +kernel⟩
abbrev rm_X4_ring : Room := { frames := 0, cells := 0, slots := 0, locals := 0 }
def f_X4_ring  (x : Int32) : Int32 :=
  x ^^^ (x >>> (1 &&& 31))
set_option maxHeartbeats 4000000 in
set_option maxRecDepth 100000 in
theorem k_X4_ring (l : Launch) (D : va_G) (cy : Nat → ClassId) (z : Nat) (o : Int64) (d : UInt64) (σ τ : Sg) (x : Int32) : KI l yX4_ring cX4_ring 1 (some .int) rm_X4_ring D cy z [.int x] o d σ τ (f_X4_ring x) σ τ := by
  refine met_of RX4 (plainFor_of_name (by decide)) rfl (Nat.le_of_ble_eq_true rfl) ?_
  intro p e s m args below meth c C hP hS ls hl
  obtain ⟨hx, hb, hr, hml, hown, hW, hlocks, hAm⟩ := id C
  have hl : lv_has ls 1 [(0, .int x)] := hl
  refine lv_iload_n hx hb dX4_ring_0 rfl (lv_at hl 0 rfl) ?_
  refine lv_iload_n hx hb dX4_ring_1 rfl (lv_at hl 0 rfl) ?_
  refine lv_iconst (v := 1) hx hb dX4_ring_2 (by decide) ?_
  refine lv_ishr hx hb dX4_ring_3 ?_
  refine lv_ixor hx hb dX4_ring_4 ?_
  exact ret_I C hP hS (nar_i _) rfl rfl rfl rfl dX4_ring_5

theorem cw_X4_neighbour : cwVt yX4_neighbour cX4_neighbour 2 (some .int) 4 1 := ⟨(mA2 (i := 58) rfl rfl), (mA2 (i := 59) rfl rfl), (mA1 (i := 3) rfl rfl), (mA2 (i := 60) rfl rfl), by decide +kernel, ⟨_, rfl, rfl⟩, by decide⟩
abbrev rm_X4_neighbour : Room := { frames := 1, cells := 0, slots := 0, locals := 20 }
def f_X4_neighbour (σ : Sg) (k : Nat) (x : Int32) : Int32 :=
  f_X4_ring (((f_X4_ring (σ k 1)) + x) &&& 3)
set_option maxHeartbeats 4000000 in
set_option maxRecDepth 100000 in
theorem k_X4_neighbour (l : Launch) (D : va_G) (cy : Nat → ClassId) (z : Nat) (o : Int64) (d : UInt64) (σ τ : Sg) {k : Nat} (hk : kd k = 4) (x : Int32) : KI l yX4_neighbour cX4_neighbour 2 (some .int) rm_X4_neighbour D cy z [.ref (z + k), .int x] o d σ τ (f_X4_neighbour σ k x) σ τ := by
  refine met_of RX4 (plainFor_of_name (by decide)) rfl (Nat.le_of_ble_eq_true rfl) ?_
  intro p e s m args below meth c C hP hS ls hl
  obtain ⟨hx, hb, hr, hml, hown, hW, hlocks, hAm⟩ := id C
  have hl : lv_has ls 2 [(0, .ref (z + k)), (1, .int x)] := hl
  refine lv_aload_n hx hb dX4_neighbour_0 rfl (lv_at hl 0 rfl) ?_
  refine gf_X4_18 C hP hk dX4_neighbour_1 ?_
  refine thn_I (run_S (As := [.int (σ k 1)]) (rest := []) C (k_X4_ring l D cy z o d σ τ (σ k 1)) hP hS cw_X4_ring (mA2 (i := 61) rfl rfl) ⟨rfl, rfl⟩ ⟨Nat.le_of_ble_eq_true rfl, Nat.le_of_ble_eq_true rfl⟩ rfl (Nat.le_of_ble_eq_true rfl) hl.1 ⟨Nat.zero_le _, Nat.zero_le _⟩ dX4_neighbour_4) hS (fun H locs hP hS => ?_)
  refine lv_iload_n hx hb dX4_neighbour_7 rfl (lv_at hl 1 rfl) ?_
  refine lv_iadd hx hb dX4_neighbour_8 ?_
  refine lv_iconst (v := 3) hx hb dX4_neighbour_9 (by decide) ?_
  refine lv_iand hx hb dX4_neighbour_10 ?_
  refine thn_I (run_S (As := [.int (((f_X4_ring (σ k 1)) + x) &&& 3)]) (rest := []) C (k_X4_ring l D cy z o d σ τ (((f_X4_ring (σ k 1)) + x) &&& 3)) hP hS cw_X4_ring (mA2 (i := 61) rfl rfl) ⟨rfl, rfl⟩ ⟨Nat.le_of_ble_eq_true rfl, Nat.le_of_ble_eq_true rfl⟩ rfl (Nat.le_of_ble_eq_true rfl) hl.1 ⟨Nat.zero_le _, Nat.zero_le _⟩ dX4_neighbour_11) hS (fun H locs hP hS => ?_)
  exact ret_I C hP hS (nar_i _) rfl rfl rfl rfl dX4_neighbour_14

theorem cw_X4_stepUnder : cwVt yX4_stepUnder cX4_stepUnder 3 (some .int) 4 2 := ⟨(mA2 (i := 54) rfl rfl), (mA2 (i := 55) rfl rfl), (mA1 (i := 3) rfl rfl), (mA2 (i := 56) rfl rfl), by decide +kernel, ⟨_, rfl, rfl⟩, by decide⟩
abbrev rm_X4_stepUnder : Room := { frames := 2, cells := 0, slots := 0, locals := 41 }
def f_X4_stepUnder (σ : Sg) (k : Nat) (x : Int32) (y : Int32) : Int32 :=
  if ((σ k 1) ^^^ y) = 3 then
    if x = 1 then
      2 * (σ k 3)
    else
      0
  else
    if y = (σ k 1) then
      0
    else
      if y = (f_X4_neighbour σ k 1) then
        1
      else
        (-1)
set_option maxHeartbeats 4000000 in
set_option maxRecDepth 100000 in
theorem k_X4_stepUnder (l : Launch) (D : va_G) (cy : Nat → ClassId) (z : Nat) (o : Int64) (d : UInt64) (σ τ : Sg) {k : Nat} (hk : kd k = 4) (x : Int32) (y : Int32) : KI l yX4_stepUnder cX4_stepUnder 3 (some .int) rm_X4_stepUnder D cy z [.ref (z + k), .int x, .int y] o d σ τ (f_X4_stepUnder σ k x y) σ τ := by
  refine met_of RX4 (plainFor_of_name (by decide)) rfl (Nat.le_of_ble_eq_true rfl) ?_
  intro p e s m args below meth c C hP hS ls hl
  obtain ⟨hx, hb, hr, hml, hown, hW, hlocks, hAm⟩ := id C
  have hl : lv_has ls 3 [(0, .ref (z + k)), (1, .int x), (2, .int y)] := hl
  refine lv_aload_n hx hb dX4_stepUnder_0 rfl (lv_at hl 0 rfl) ?_
  refine gf_X4_18 C hP hk dX4_stepUnder_1 ?_
  refine lv_iload_n hx hb dX4_stepUnder_4 rfl (lv_at hl 2 rfl) ?_
  refine lv_ixor hx hb dX4_stepUnder_5 ?_
  refine lv_iconst (v := 3) hx hb dX4_stepUnder_6 (by decide) ?_
  refine lv_icmp_ne (tgt := 26) hx hb dX4_stepUnder_7 (by decide) (fun c_7 => ?_) (fun c_7 => ?_)
  · refine lv_iload_n hx hb dX4_stepUnder_26 rfl (lv_at hl 2 rfl) ?_
    refine lv_aload_n hx hb dX4_stepUnder_27 rfl (lv_at hl 0 rfl) ?_
    refine gf_X4_18 C hP hk dX4_stepUnder_28 ?_
    refine lv_icmp_ne (tgt := 36) hx hb dX4_stepUnder_31 (by decide) (fun c_31 => ?_) (fun c_31 => ?_)
    · refine lv_iload_n hx hb dX4_stepUnder_36 rfl (lv_at hl 2 rfl) ?_
      refine lv_aload_n hx hb dX4_stepUnder_37 rfl (lv_at hl 0 rfl) ?_
      refine lv_iconst (v := 1) hx hb dX4_stepUnder_38 (by decide) ?_
      refine thn_I (run_V (As := [.int 1]) (rest := [.int y]) C (k_X4_neighbour l D cy z o d σ τ hk 1) hP hS cw_X4_neighbour (mA2 (i := 57) rfl rfl) hk ⟨rfl, rfl⟩ ⟨Nat.le_of_ble_eq_true rfl, Nat.le_of_ble_eq_true rfl⟩ rfl (Nat.le_of_ble_eq_true rfl) hl.1 ⟨Nat.zero_le _, Nat.zero_le _⟩ dX4_stepUnder_39) hS (fun H locs hP hS => ?_)
      refine lv_icmp_ne (tgt := 49) hx hb dX4_stepUnder_42 (by decide) (fun c_42 => ?_) (fun c_42 => ?_)
      · refine lv_iconst (v := (-1)) hx hb dX4_stepUnder_49 (by decide) ?_
        exact ret_I C hP hS (nar_i _) rfl (by unfold f_X4_stepUnder; rw [if_neg c_7, if_neg c_31, if_neg c_42]) rfl rfl dX4_stepUnder_50
      · refine lv_iconst (v := 1) hx hb dX4_stepUnder_45 (by decide) ?_
        refine lv_goto (tgt := 50) hx hb dX4_stepUnder_46 (by decide) ?_
        exact ret_I C hP hS (nar_i _) rfl (by unfold f_X4_stepUnder; rw [if_neg c_7, if_neg c_31, if_pos c_42]) rfl rfl dX4_stepUnder_50
    · refine lv_iconst (v := 0) hx hb dX4_stepUnder_34 (by decide) ?_
      exact ret_I C hP hS (nar_i _) rfl (by unfold f_X4_stepUnder; rw [if_neg c_7, if_pos c_31]) rfl rfl dX4_stepUnder_35
  · refine lv_iload_n hx hb dX4_stepUnder_10 rfl (lv_at hl 1 rfl) ?_
    refine lv_iconst (v := 1) hx hb dX4_stepUnder_11 (by decide) ?_
    refine lv_icmp_ne (tgt := 24) hx hb dX4_stepUnder_12 (by decide) (fun c_12 => ?_) (fun c_12 => ?_)
    · refine lv_iconst (v := 0) hx hb dX4_stepUnder_24 (by decide) ?_
      exact ret_I C hP hS (nar_i _) rfl (by unfold f_X4_stepUnder; rw [if_pos c_7, if_neg c_12]) rfl rfl dX4_stepUnder_25
    · refine lv_iconst (v := 2) hx hb dX4_stepUnder_15 (by decide) ?_
      refine lv_aload_n hx hb dX4_stepUnder_16 rfl (lv_at hl 0 rfl) ?_
      refine gf_X4_26 C hP hk dX4_stepUnder_17 ?_
      refine lv_imul hx hb dX4_stepUnder_20 ?_
      refine lv_goto (tgt := 25) hx hb dX4_stepUnder_21 (by decide) ?_
      exact ret_I C hP hS (nar_i _) rfl (by unfold f_X4_stepUnder; rw [if_pos c_7, if_pos c_12]) rfl rfl dX4_stepUnder_25

theorem cw_X4_hasRoom : cwVt yX4_hasRoom cX4_hasRoom 3 (some .boolean) 4 2 := ⟨(mA2 (i := 104) rfl rfl), (mA2 (i := 105) rfl rfl), (mA1 (i := 3) rfl rfl), (mA2 (i := 106) rfl rfl), by decide +kernel, ⟨_, rfl, rfl⟩, by decide⟩
abbrev rm_X4_hasRoom : Room := { frames := 0, cells := 0, slots := 0, locals := 0 }
def f_X4_hasRoom (σ : Sg) (k : Nat) (x : Int32) (y : Int32) : Int32 :=
  if 1000000000 < ((σ k 11) + x) then
    0
  else
    if 1000000000 < ((σ k 10) + y) then
      0
    else
      1
set_option maxHeartbeats 4000000 in
set_option maxRecDepth 100000 in
theorem k_X4_hasRoom (l : Launch) (D : va_G) (cy : Nat → ClassId) (z : Nat) (o : Int64) (d : UInt64) (σ τ : Sg) {k : Nat} (hk : kd k = 4) (x : Int32) (y : Int32) : KI l yX4_hasRoom cX4_hasRoom 3 (some .boolean) rm_X4_hasRoom D cy z [.ref (z + k), .int x, .int y] o d σ τ (f_X4_hasRoom σ k x y) σ τ := by
  refine met_of RX4 (plainFor_of_name (by decide)) rfl (Nat.le_of_ble_eq_true rfl) ?_
  intro p e s m args below meth c C hP hS ls hl
  obtain ⟨hx, hb, hr, hml, hown, hW, hlocks, hAm⟩ := id C
  have hl : lv_has ls 3 [(0, .ref (z + k)), (1, .int x), (2, .int y)] := hl
  refine lv_aload_n hx hb dX4_hasRoom_0 rfl (lv_at hl 0 rfl) ?_
  refine gf_X4_32 C hP hk dX4_hasRoom_1 ?_
  refine lv_iload_n hx hb dX4_hasRoom_4 rfl (lv_at hl 1 rfl) ?_
  refine lv_iadd hx hb dX4_hasRoom_5 ?_
  refine lv_ldc (v := 1000000000) hx hb hown (hW _ (mA2 (i := 107) rfl rfl)) dX4_hasRoom_6 ?_
  refine lv_icmp_gt (tgt := 26) hx hb dX4_hasRoom_8 (by decide) (fun c_8 => ?_) (fun c_8 => ?_)
  · refine lv_iconst (v := 0) hx hb dX4_hasRoom_26 (by decide) ?_
    exact ret_I C hP hS nar_z0 rfl (by unfold f_X4_hasRoom; rw [if_pos c_8]) rfl rfl dX4_hasRoom_27
  · refine lv_aload_n hx hb dX4_hasRoom_11 rfl (lv_at hl 0 rfl) ?_
    refine gf_X4_36 C hP hk dX4_hasRoom_12 ?_
    refine lv_iload_n hx hb dX4_hasRoom_15 rfl (lv_at hl 2 rfl) ?_
    refine lv_iadd hx hb dX4_hasRoom_16 ?_
    refine lv_ldc (v := 1000000000) hx hb hown (hW _ (mA2 (i := 107) rfl rfl)) dX4_hasRoom_17 ?_
    refine lv_icmp_gt (tgt := 26) hx hb dX4_hasRoom_19 (by decide) (fun c_19 => ?_) (fun c_19 => ?_)
    · refine lv_iconst (v := 0) hx hb dX4_hasRoom_26 (by decide) ?_
      exact ret_I C hP hS nar_z0 rfl (by unfold f_X4_hasRoom; rw [if_neg c_8, if_pos c_19]) rfl rfl dX4_hasRoom_27
    · refine lv_iconst (v := 1) hx hb dX4_hasRoom_22 (by decide) ?_
      refine lv_goto (tgt := 27) hx hb dX4_hasRoom_23 (by decide) ?_
      exact ret_I C hP hS nar_z1 rfl (by unfold f_X4_hasRoom; rw [if_neg c_8, if_neg c_19]) rfl rfl dX4_hasRoom_27
theorem nz_X4_hasRoom (σ : Sg) (k : Nat) (x : Int32) (y : Int32) : narrow .boolean (.int (f_X4_hasRoom σ k x y)) = .int (f_X4_hasRoom σ k x y) := by
  unfold f_X4_hasRoom
  repeat' split
  all_goals first | exact nar_z1 | exact nar_z0

theorem cw_X4_book : cwVt yX4_book cX4_book 3 none 4 2 := ⟨(mA2 (i := 166) rfl rfl), (mA0 (i := 6) rfl rfl), (mA1 (i := 3) rfl rfl), (mA2 (i := 167) rfl rfl), by decide +kernel, ⟨_, rfl, rfl⟩, by decide⟩
abbrev rm_X4_book : Room := { frames := 0, cells := 0, slots := 0, locals := 0 }
def s_X4_book (σ : Sg) (k : Nat) (x : Int32) (y : Int32) : Sg :=
  if x = 1 then
    up σ k 5 ((σ k 5) + y)
  else
    if x = 2 then
      up σ k 4 ((σ k 4) + y)
    else
      if x = 3 then
        up σ k 6 ((σ k 6) + y)
      else
        σ
set_option maxHeartbeats 4000000 in
set_option maxRecDepth 100000 in
theorem k_X4_book (l : Launch) (D : va_G) (cy : Nat → ClassId) (z : Nat) (o : Int64) (d : UInt64) (σ τ : Sg) {k : Nat} (hk : kd k = 4) (x : Int32) (y : Int32) : KV l yX4_book cX4_book 3 rm_X4_book D cy z [.ref (z + k), .int x, .int y] o d σ τ (s_X4_book σ k x y) τ := by
  refine met_of RX4 (plainFor_of_name (by decide)) rfl (Nat.le_of_ble_eq_true rfl) ?_
  intro p e s m args below meth c C hP hS ls hl
  obtain ⟨hx, hb, hr, hml, hown, hW, hlocks, hAm⟩ := id C
  have hl : lv_has ls 3 [(0, .ref (z + k)), (1, .int x), (2, .int y)] := hl
  refine lv_iload_n hx hb dX4_book_0 rfl (lv_at hl 1 rfl) ?_
  by_cases c_1_1 : x = 1
  · refine lv_tableIn (tgt := 41) hx hb dX4_book_1 (by rw [c_1_1]; decide) (by rw [c_1_1]; decide) (by rw [c_1_1]; rfl) (by decide) ?_
    refine lv_aload_n hx hb dX4_book_41 rfl (lv_at hl 0 rfl) ?_
    refine lv_dup hx hb dX4_book_42 rfl ?_
    refine gf_X4_83 C hP hk dX4_book_43 ?_
    refine lv_iload_n hx hb dX4_book_46 rfl (lv_at hl 2 rfl) ?_
    refine lv_iadd hx hb dX4_book_47 ?_
    refine pf_X4_83 C hP hS hk dX4_book_48 (fun H locs hP hS => ?_)
    refine lv_goto (tgt := 67) hx hb dX4_book_51 (by decide) ?_
    exact ret_V C hP hS (by unfold s_X4_book; rw [if_pos c_1_1]) rfl dX4_book_67
  · by_cases c_1_2 : x = 2
    · refine lv_tableIn (tgt := 28) hx hb dX4_book_1 (by rw [c_1_2]; decide) (by rw [c_1_2]; decide) (by rw [c_1_2]; rfl) (by decide) ?_
      refine lv_aload_n hx hb dX4_book_28 rfl (lv_at hl 0 rfl) ?_
      refine lv_dup hx hb dX4_book_29 rfl ?_
      refine gf_X4_80 C hP hk dX4_book_30 ?_
      refine lv_iload_n hx hb dX4_book_33 rfl (lv_at hl 2 rfl) ?_
      refine lv_iadd hx hb dX4_book_34 ?_
      refine pf_X4_80 C hP hS hk dX4_book_35 (fun H locs hP hS => ?_)
      refine lv_goto (tgt := 67) hx hb dX4_book_38 (by decide) ?_
      exact ret_V C hP hS (by unfold s_X4_book; rw [if_neg c_1_1, if_pos c_1_2]) rfl dX4_book_67
    · by_cases c_1_3 : x = 3
      · refine lv_tableIn (tgt := 54) hx hb dX4_book_1 (by rw [c_1_3]; decide) (by rw [c_1_3]; decide) (by rw [c_1_3]; rfl) (by decide) ?_
        refine lv_aload_n hx hb dX4_book_54 rfl (lv_at hl 0 rfl) ?_
        refine lv_dup hx hb dX4_book_55 rfl ?_
        refine gf_X4_86 C hP hk dX4_book_56 ?_
        refine lv_iload_n hx hb dX4_book_59 rfl (lv_at hl 2 rfl) ?_
        refine lv_iadd hx hb dX4_book_60 ?_
        refine pf_X4_86 C hP hS hk dX4_book_61 (fun H locs hP hS => ?_)
        refine lv_goto (tgt := 67) hx hb dX4_book_64 (by decide) ?_
        exact ret_V C hP hS (by unfold s_X4_book; rw [if_neg c_1_1, if_neg c_1_2, if_pos c_1_3]) rfl dX4_book_67
      · refine lv_tableOut (tgt := 67) hx hb dX4_book_1 (tab_out3b (lv_neT c_1_1 (k := 1) (a := 1) rfl) (lv_neT c_1_2 (k := 2) (a := 2) rfl) (lv_neT c_1_3 (k := 3) (a := 3) rfl)) (by decide) ?_
        exact ret_V C hP hS (by unfold s_X4_book; rw [if_neg c_1_1, if_neg c_1_2, if_neg c_1_3]) rfl dX4_book_67

theorem cw_X4_move : cwVt yX4_move cX4_move 4 none 4 3 := ⟨(mA2 (i := 162) rfl rfl), (mA0 (i := 5) rfl rfl), (mA1 (i := 3) rfl rfl), (mA2 (i := 163) rfl rfl), by decide +kernel, ⟨_, rfl, rfl⟩, by decide⟩
abbrev rm_X4_move : Room := { frames := 1, cells := 0, slots := 0, locals := 22 }
def s_X4_move (σ : Sg) (k : Nat) (x : Int32) (y : Int32) (w : Int32) : Sg :=
  if y = 0 then
    up (up (up (up (s_X4_book σ k ((σ k 1) ^^^ x) y) k 1 x) k 2 (((up (s_X4_book σ k ((σ k 1) ^^^ x) y) k 1 x) k 2) + y)) k 10 (((up (up (s_X4_book σ k ((σ k 1) ^^^ x) y) k 1 x) k 2 (((up (s_X4_book σ k ((σ k 1) ^^^ x) y) k 1 x) k 2) + y)) k 10) + (ab y))) k 11 (((up (up (up (s_X4_book σ k ((σ k 1) ^^^ x) y) k 1 x) k 2 (((up (s_X4_book σ k ((σ k 1) ^^^ x) y) k 1 x) k 2) + y)) k 10 (((up (up (s_X4_book σ k ((σ k 1) ^^^ x) y) k 1 x) k 2 (((up (s_X4_book σ k ((σ k 1) ^^^ x) y) k 1 x) k 2) + y)) k 10) + (ab y))) k 11) + w)
  else
    if y ≤ 0 then
      up (up (up (up (up (s_X4_book σ k ((σ k 1) ^^^ x) y) k 1 x) k 2 (((up (s_X4_book σ k ((σ k 1) ^^^ x) y) k 1 x) k 2) + y)) k 10 (((up (up (s_X4_book σ k ((σ k 1) ^^^ x) y) k 1 x) k 2 (((up (s_X4_book σ k ((σ k 1) ^^^ x) y) k 1 x) k 2) + y)) k 10) + (ab y))) k 11 (((up (up (up (s_X4_book σ k ((σ k 1) ^^^ x) y) k 1 x) k 2 (((up (s_X4_book σ k ((σ k 1) ^^^ x) y) k 1 x) k 2) + y)) k 10 (((up (up (s_X4_book σ k ((σ k 1) ^^^ x) y) k 1 x) k 2 (((up (s_X4_book σ k ((σ k 1) ^^^ x) y) k 1 x) k 2) + y)) k 10) + (ab y))) k 11) + w)) k 3 (-1)
    else
      up (up (up (up (up (s_X4_book σ k ((σ k 1) ^^^ x) y) k 1 x) k 2 (((up (s_X4_book σ k ((σ k 1) ^^^ x) y) k 1 x) k 2) + y)) k 10 (((up (up (s_X4_book σ k ((σ k 1) ^^^ x) y) k 1 x) k 2 (((up (s_X4_book σ k ((σ k 1) ^^^ x) y) k 1 x) k 2) + y)) k 10) + (ab y))) k 11 (((up (up (up (s_X4_book σ k ((σ k 1) ^^^ x) y) k 1 x) k 2 (((up (s_X4_book σ k ((σ k 1) ^^^ x) y) k 1 x) k 2) + y)) k 10 (((up (up (s_X4_book σ k ((σ k 1) ^^^ x) y) k 1 x) k 2 (((up (s_X4_book σ k ((σ k 1) ^^^ x) y) k 1 x) k 2) + y)) k 10) + (ab y))) k 11) + w)) k 3 1
set_option maxHeartbeats 4000000 in
set_option maxRecDepth 100000 in
theorem k_X4_move (l : Launch) (D : va_G) (cy : Nat → ClassId) (z : Nat) (o : Int64) (d : UInt64) (σ τ : Sg) {k : Nat} (hk : kd k = 4) (x : Int32) (y : Int32) (w : Int32) : KV l yX4_move cX4_move 4 rm_X4_move D cy z [.ref (z + k), .int x, .int y, .int w] o d σ τ (s_X4_move σ k x y w) τ := by
  refine met_of RX4 (plainFor_of_name (by decide)) rfl (Nat.le_of_ble_eq_true rfl) ?_
  intro p e s m args below meth c C hP hS ls hl
  obtain ⟨hx, hb, hr, hml, hown, hW, hlocks, hAm⟩ := id C
  have hl : lv_has ls 4 [(0, .ref (z + k)), (1, .int x), (2, .int y), (3, .int w)] := hl
  refine lv_aload_n hx hb dX4_move_0 rfl (lv_at hl 0 rfl) ?_
  refine lv_aload_n hx hb dX4_move_1 rfl (lv_at hl 0 rfl) ?_
  refine gf_X4_18 C hP hk dX4_move_2 ?_
  refine lv_iload_n hx hb dX4_move_5 rfl (lv_at hl 1 rfl) ?_
  refine lv_ixor hx hb dX4_move_6 ?_
  refine lv_iload_n hx hb dX4_move_7 rfl (lv_at hl 2 rfl) ?_
  refine thn_V (run_V (As := [.int ((σ k 1) ^^^ x), .int y]) (rest := []) C (k_X4_book l D cy z o d σ τ hk ((σ k 1) ^^^ x) y) hP hS cw_X4_book (mA2 (i := 164) rfl rfl) hk ⟨rfl, rfl⟩ ⟨Nat.le_of_ble_eq_true rfl, Nat.le_of_ble_eq_true rfl⟩ rfl (Nat.le_of_ble_eq_true rfl) hl.1 ⟨Nat.zero_le _, Nat.zero_le _⟩ dX4_move_8) hS (fun H locs hP hS => ?_)
  refine lv_aload_n hx hb dX4_move_11 rfl (lv_at hl 0 rfl) ?_
  refine lv_iload_n hx hb dX4_move_12 rfl (lv_at hl 1 rfl) ?_
  refine pf_X4_18 C hP hS hk dX4_move_13 (fun H locs hP hS => ?_)
  refine lv_aload_n hx hb dX4_move_16 rfl (lv_at hl 0 rfl) ?_
  refine lv_dup hx hb dX4_move_17 rfl ?_
  refine gf_X4_77 C hP hk dX4_move_18 ?_
  refine lv_iload_n hx hb dX4_move_21 rfl (lv_at hl 2 rfl) ?_
  refine lv_iadd hx hb dX4_move_22 ?_
  refine pf_X4_77 C hP hS hk dX4_move_23 (fun H locs hP hS => ?_)
  refine lv_aload_n hx hb dX4_move_26 rfl (lv_at hl 0 rfl) ?_
  refine lv_dup hx hb dX4_move_27 rfl ?_
  refine gf_X4_36 C hP hk dX4_move_28 ?_
  refine lv_iload_n hx hb dX4_move_31 rfl (lv_at hl 2 rfl) ?_
  refine g_abs C (mA2 (i := 168) rfl rfl) (Nat.le_of_ble_eq_true rfl) (Nat.le_of_ble_eq_true rfl) ⟨Nat.zero_le _, Nat.zero_le _⟩ hl.1 dX4_move_32 ?_
  refine lv_iadd hx hb dX4_move_35 ?_
  refine pf_X4_36 C hP hS hk dX4_move_36 (fun H locs hP hS => ?_)
  refine lv_aload_n hx hb dX4_move_39 rfl (lv_at hl 0 rfl) ?_
  refine lv_dup hx hb dX4_move_40 rfl ?_
  refine gf_X4_32 C hP hk dX4_move_41 ?_
  refine lv_iload_n hx hb dX4_move_44 rfl (lv_at hl 3 rfl) ?_
  refine lv_iadd hx hb dX4_move_45 ?_
  refine pf_X4_32 C hP hS hk dX4_move_46 (fun H locs hP hS => ?_)
  refine lv_iload_n hx hb dX4_move_49 rfl (lv_at hl 2 rfl) ?_
  refine lv_if_eq (tgt := 66) hx hb dX4_move_50 (by decide) (fun c_50 => ?_) (fun c_50 => ?_)
  · exact ret_V C hP hS (by unfold s_X4_move; rw [if_pos c_50]) rfl dX4_move_66
  · refine lv_aload_n hx hb dX4_move_53 rfl (lv_at hl 0 rfl) ?_
    refine lv_iload_n hx hb dX4_move_54 rfl (lv_at hl 2 rfl) ?_
    refine lv_if_le (tgt := 62) hx hb dX4_move_55 (by decide) (fun c_55 => ?_) (fun c_55 => ?_)
    · refine lv_iconst (v := (-1)) hx hb dX4_move_62 (by decide) ?_
      refine pf_X4_26 C hP hS hk dX4_move_63 (fun H locs hP hS => ?_)
      exact ret_V C hP hS (by unfold s_X4_move; rw [if_neg c_50, if_pos c_55]) rfl dX4_move_66
    · refine lv_iconst (v := 1) hx hb dX4_move_58 (by decide) ?_
      refine lv_goto (tgt := 63) hx hb dX4_move_59 (by decide) ?_
      refine pf_X4_26 C hP hS hk dX4_move_63 (fun H locs hP hS => ?_)
      exact ret_V C hP hS (by unfold s_X4_move; rw [if_neg c_50, if_neg c_55]) rfl dX4_move_66

theorem cw_X4_sense : cwVt yX4_sense cX4_sense 4 none 4 3 := ⟨(mA2 (i := 145) rfl rfl), (mA2 (i := 146) rfl rfl), (mA1 (i := 3) rfl rfl), (mA2 (i := 147) rfl rfl), by decide +kernel, ⟨_, rfl, rfl⟩, by decide⟩
abbrev rm_X4_sense : Room := { frames := 2, cells := 0, slots := 0, locals := 46 }
def s_X4_sense (σ : Sg) (k : Nat) (x : Int32) (y : Int32) (w : Int32) : Sg :=
  if ((σ k 1) ^^^ x) = 3 then
    s_X4_move (s_X1_add (up σ k 8 ((σ k 8) + 1)) (k + 1) y w ((up σ k 8 ((σ k 8) + 1)) k 1)) k x y w
  else
    s_X4_move (s_X1_add σ (k + 1) y w (σ k 1)) k x y w
set_option maxHeartbeats 4000000 in
set_option maxRecDepth 100000 in
theorem k_X4_sense (l : Launch) (D : va_G) (cy : Nat → ClassId) (z : Nat) (o : Int64) (d : UInt64) (σ τ : Sg) {k : Nat} (hk : kd k = 4) (x : Int32) (y : Int32) (w : Int32) : KV l yX4_sense cX4_sense 4 rm_X4_sense D cy z [.ref (z + k), .int x, .int y, .int w] o d σ τ (s_X4_sense σ k x y w) τ := by
  refine met_of RX4 (plainFor_of_name (by decide)) rfl (Nat.le_of_ble_eq_true rfl) ?_
  intro p e s m args below meth c C hP hS ls hl
  obtain ⟨hx, hb, hr, hml, hown, hW, hlocks, hAm⟩ := id C
  have hl : lv_has ls 4 [(0, .ref (z + k)), (1, .int x), (2, .int y), (3, .int w)] := hl
  refine lv_aload_n hx hb dX4_sense_0 rfl (lv_at hl 0 rfl) ?_
  refine gf_X4_18 C hP hk dX4_sense_1 ?_
  refine lv_iload_n hx hb dX4_sense_4 rfl (lv_at hl 1 rfl) ?_
  refine lv_ixor hx hb dX4_sense_5 ?_
  refine lv_iconst (v := 3) hx hb dX4_sense_6 (by decide) ?_
  refine lv_icmp_ne (tgt := 20) hx hb dX4_sense_7 (by decide) (fun c_7 => ?_) (fun c_7 => ?_)
  · refine lv_aload_n hx hb dX4_sense_20 rfl (lv_at hl 0 rfl) ?_
    refine gf_X4_12 C hP hk dX4_sense_21 ?_
    refine lv_iload_n hx hb dX4_sense_24 rfl (lv_at hl 2 rfl) ?_
    refine lv_iload_n hx hb dX4_sense_25 rfl (lv_at hl 3 rfl) ?_
    refine lv_aload_n hx hb dX4_sense_26 rfl (lv_at hl 0 rfl) ?_
    refine gf_X4_18 C hP hk dX4_sense_27 ?_
    refine thn_V (run_V (As := [.int y, .int w, .int (σ k 1)]) (rest := []) C (k_X1_add l D cy z o d σ τ (kd4_1 hk) y w (σ k 1)) hP hS cw_X1_add (mA2 (i := 148) rfl rfl) (kd4_1 hk) ⟨rfl, rfl⟩ ⟨Nat.le_of_ble_eq_true rfl, Nat.le_of_ble_eq_true rfl⟩ rfl (Nat.le_of_ble_eq_true rfl) hl.1 ⟨Nat.zero_le _, Nat.zero_le _⟩ dX4_sense_30) hS (fun H locs hP hS => ?_)
    refine lv_aload_n hx hb dX4_sense_33 rfl (lv_at hl 0 rfl) ?_
    refine lv_iload_n hx hb dX4_sense_34 rfl (lv_at hl 1 rfl) ?_
    refine lv_iload_n hx hb dX4_sense_35 rfl (lv_at hl 2 rfl) ?_
    refine lv_iload_n hx hb dX4_sense_36 rfl (lv_at hl 3 rfl) ?_
    refine thn_V (run_V (As := [.int x, .int y, .int w]) (rest := []) C (k_X4_move l D cy z o d (s_X1_add σ (k + 1) y w (σ k 1)) τ hk x y w) hP hS cw_X4_move (mA2 (i := 160) rfl rfl) hk ⟨rfl, rfl⟩ ⟨Nat.le_of_ble_eq_true rfl, Nat.le_of_ble_eq_true rfl⟩ rfl (Nat.le_of_ble_eq_true rfl) hl.1 ⟨Nat.zero_le _, Nat.zero_le _⟩ dX4_sense_37) hS (fun H locs hP hS => ?_)
    exact ret_V C hP hS (by unfold s_X4_sense; rw [if_neg c_7]) rfl dX4_sense_40
  · refine lv_aload_n hx hb dX4_sense_10 rfl (lv_at hl 0 rfl) ?_
    refine lv_dup hx hb dX4_sense_11 rfl ?_
    refine gf_X4_39 C hP hk dX4_sense_12 ?_
    refine lv_iconst (v := 1) hx hb dX4_sense_15 (by decide) ?_
    refine lv_iadd hx hb dX4_sense_16 ?_
    refine pf_X4_39 C hP hS hk dX4_sense_17 (fun H locs hP hS => ?_)
    refine lv_aload_n hx hb dX4_sense_20 rfl (lv_at hl 0 rfl) ?_
    refine gf_X4_12 C hP hk dX4_sense_21 ?_
    refine lv_iload_n hx hb dX4_sense_24 rfl (lv_at hl 2 rfl) ?_
    refine lv_iload_n hx hb dX4_sense_25 rfl (lv_at hl 3 rfl) ?_
    refine lv_aload_n hx hb dX4_sense_26 rfl (lv_at hl 0 rfl) ?_
    refine gf_X4_18 C hP hk dX4_sense_27 ?_
    refine thn_V (run_V (As := [.int y, .int w, .int ((up σ k 8 ((σ k 8) + 1)) k 1)]) (rest := []) C (k_X1_add l D cy z o d (up σ k 8 ((σ k 8) + 1)) τ (kd4_1 hk) y w ((up σ k 8 ((σ k 8) + 1)) k 1)) hP hS cw_X1_add (mA2 (i := 148) rfl rfl) (kd4_1 hk) ⟨rfl, rfl⟩ ⟨Nat.le_of_ble_eq_true rfl, Nat.le_of_ble_eq_true rfl⟩ rfl (Nat.le_of_ble_eq_true rfl) hl.1 ⟨Nat.zero_le _, Nat.zero_le _⟩ dX4_sense_30) hS (fun H locs hP hS => ?_)
    refine lv_aload_n hx hb dX4_sense_33 rfl (lv_at hl 0 rfl) ?_
    refine lv_iload_n hx hb dX4_sense_34 rfl (lv_at hl 1 rfl) ?_
    refine lv_iload_n hx hb dX4_sense_35 rfl (lv_at hl 2 rfl) ?_
    refine lv_iload_n hx hb dX4_sense_36 rfl (lv_at hl 3 rfl) ?_
    refine thn_V (run_V (As := [.int x, .int y, .int w]) (rest := []) C (k_X4_move l D cy z o d (s_X1_add (up σ k 8 ((σ k 8) + 1)) (k + 1) y w ((up σ k 8 ((σ k 8) + 1)) k 1)) τ hk x y w) hP hS cw_X4_move (mA2 (i := 160) rfl rfl) hk ⟨rfl, rfl⟩ ⟨Nat.le_of_ble_eq_true rfl, Nat.le_of_ble_eq_true rfl⟩ rfl (Nat.le_of_ble_eq_true rfl) hl.1 ⟨Nat.zero_le _, Nat.zero_le _⟩ dX4_sense_37) hS (fun H locs hP hS => ?_)
    exact ret_V C hP hS (by unfold s_X4_sense; rw [if_pos c_7]) rfl dX4_sense_40

theorem cw_X4_turnsOver : cwVt yX4_turnsOver cX4_turnsOver 2 (some .int) 4 1 := ⟨(mA3 (i := 46) rfl rfl), (mA3 (i := 47) rfl rfl), (mA1 (i := 3) rfl rfl), (mA3 (i := 48) rfl rfl), by decide +kernel, ⟨_, rfl, rfl⟩, by decide⟩
abbrev rm_X4_turnsOver : Room := { frames := 1, cells := 0, slots := 0, locals := 22 }
def f_X4_turnsOver (σ : Sg) (k : Nat) (x : Int32) : Int32 :=
  if 1 ≤ x then
    f_J9_floorDiv_7cf53 (σ k 2) x
  else
    0
set_option maxHeartbeats 4000000 in
set_option maxRecDepth 100000 in
theorem k_X4_turnsOver (l : Launch) (D : va_G) (cy : Nat → ClassId) (z : Nat) (o : Int64) (d : UInt64) (σ τ : Sg) {k : Nat} (hk : kd k = 4) (x : Int32) : KI l yX4_turnsOver cX4_turnsOver 2 (some .int) rm_X4_turnsOver D cy z [.ref (z + k), .int x] o d σ τ (f_X4_turnsOver σ k x) σ τ := by
  refine met_of RX4 (plainFor_of_name (by decide)) rfl (Nat.le_of_ble_eq_true rfl) ?_
  intro p e s m args below meth c C hP hS ls hl
  obtain ⟨hx, hb, hr, hml, hown, hW, hlocks, hAm⟩ := id C
  have hl : lv_has ls 2 [(0, .ref (z + k)), (1, .int x)] := hl
  refine lv_iload_n hx hb dX4_turnsOver_0 rfl (lv_at hl 1 rfl) ?_
  refine lv_iconst (v := 1) hx hb dX4_turnsOver_1 (by decide) ?_
  refine lv_icmp_ge (tgt := 9) hx hb dX4_turnsOver_2 (by decide) (fun c_2 => ?_) (fun c_2 => ?_)
  · refine lv_aload_n hx hb dX4_turnsOver_9 rfl (lv_at hl 0 rfl) ?_
    refine gf_X4_77 C hP hk dX4_turnsOver_10 ?_
    refine lv_iload_n hx hb dX4_turnsOver_13 rfl (lv_at hl 1 rfl) ?_
    refine thn_I (run_S (As := [.int (σ k 2), .int x]) (rest := []) C (k_J9_floorDiv_7cf53 l D cy z o d σ τ (σ k 2) x (ne0_le1 c_2)) hP hS cw_J9_floorDiv_7cf53 (mA3 (i := 49) rfl rfl) ⟨rfl, rfl⟩ ⟨Nat.le_of_ble_eq_true rfl, Nat.le_of_ble_eq_true rfl⟩ rfl (Nat.le_of_ble_eq_true rfl) hl.1 ⟨Nat.zero_le _, Nat.zero_le _⟩ dX4_turnsOver_14) hS (fun H locs hP hS => ?_)
    exact ret_I C hP hS (nar_i _) rfl (by unfold f_X4_turnsOver; rw [if_pos c_2]) rfl rfl dX4_turnsOver_17
  · refine lv_iconst (v := 0) hx hb dX4_turnsOver_5 (by decide) ?_
    refine lv_goto (tgt := 17) hx hb dX4_turnsOver_6 (by decide) ?_
    exact ret_I C hP hS (nar_i _) rfl (by unfold f_X4_turnsOver; rw [if_neg c_2]) rfl rfl dX4_turnsOver_17

theorem cw_X4_placeIn : cwVt yX4_placeIn cX4_placeIn 2 (some .int) 4 1 := ⟨(mA2 (i := 203) rfl rfl), (mA2 (i := 204) rfl rfl), (mA1 (i := 3) rfl rfl), (mA2 (i := 205) rfl rfl), by decide +kernel, ⟨_, rfl, rfl⟩, by decide⟩
abbrev rm_X4_placeIn : Room := { frames := 1, cells := 0, slots := 0, locals := 22 }
def f_X4_placeIn (σ : Sg) (k : Nat) (x : Int32) : Int32 :=
  if 1 ≤ x then
    f_J9_floorMod_7cf53 (σ k 2) x
  else
    0
set_option maxHeartbeats 4000000 in
set_option maxRecDepth 100000 in
theorem k_X4_placeIn (l : Launch) (D : va_G) (cy : Nat → ClassId) (z : Nat) (o : Int64) (d : UInt64) (σ τ : Sg) {k : Nat} (hk : kd k = 4) (x : Int32) : KI l yX4_placeIn cX4_placeIn 2 (some .int) rm_X4_placeIn D cy z [.ref (z + k), .int x] o d σ τ (f_X4_placeIn σ k x) σ τ := by
  refine met_of RX4 (plainFor_of_name (by decide)) rfl (Nat.le_of_ble_eq_true rfl) ?_
  intro p e s m args below meth c C hP hS ls hl
  obtain ⟨hx, hb, hr, hml, hown, hW, hlocks, hAm⟩ := id C
  have hl : lv_has ls 2 [(0, .ref (z + k)), (1, .int x)] := hl
  refine lv_iload_n hx hb dX4_placeIn_0 rfl (lv_at hl 1 rfl) ?_
  refine lv_iconst (v := 1) hx hb dX4_placeIn_1 (by decide) ?_
  refine lv_icmp_ge (tgt := 9) hx hb dX4_placeIn_2 (by decide) (fun c_2 => ?_) (fun c_2 => ?_)
  · refine lv_aload_n hx hb dX4_placeIn_9 rfl (lv_at hl 0 rfl) ?_
    refine gf_X4_77 C hP hk dX4_placeIn_10 ?_
    refine lv_iload_n hx hb dX4_placeIn_13 rfl (lv_at hl 1 rfl) ?_
    refine thn_I (run_S (As := [.int (σ k 2), .int x]) (rest := []) C (k_J9_floorMod_7cf53 l D cy z o d σ τ (σ k 2) x (ne0_le1 c_2)) hP hS cw_J9_floorMod_7cf53 (mA2 (i := 206) rfl rfl) ⟨rfl, rfl⟩ ⟨Nat.le_of_ble_eq_true rfl, Nat.le_of_ble_eq_true rfl⟩ rfl (Nat.le_of_ble_eq_true rfl) hl.1 ⟨Nat.zero_le _, Nat.zero_le _⟩ dX4_placeIn_14) hS (fun H locs hP hS => ?_)
    exact ret_I C hP hS (nar_i _) rfl (by unfold f_X4_placeIn; rw [if_pos c_2]) rfl rfl dX4_placeIn_17
  · refine lv_iconst (v := 0) hx hb dX4_placeIn_5 (by decide) ?_
    refine lv_goto (tgt := 17) hx hb dX4_placeIn_6 (by decide) ?_
    exact ret_I C hP hS (nar_i _) rfl (by unfold f_X4_placeIn; rw [if_neg c_2]) rfl rfl dX4_placeIn_17

theorem cw_X4_passMark : cwVt yX4_passMark cX4_passMark 4 (some .int) 4 1 := ⟨(mA2 (i := 222) rfl rfl), (mA2 (i := 223) rfl rfl), (mA1 (i := 3) rfl rfl), (mA2 (i := 224) rfl rfl), by decide +kernel, ⟨_, rfl, rfl⟩, by decide⟩
abbrev rm_X4_passMark : Room := { frames := 2, cells := 0, slots := 0, locals := 43 }
def f_X4_passMark (σ : Sg) (k : Nat) (x : Int32) : Int32 :=
  if x < (2 * (f_X4_placeIn σ k x)) then
    (f_X4_placeIn σ k x) - x
  else
    f_X4_placeIn σ k x
def s_X4_passMark (σ : Sg) (k : Nat) (x : Int32) : Sg :=
  if x < (2 * (f_X4_placeIn σ k x)) then
    up (up (up σ k 2 ((σ k 2) - ((f_X4_placeIn σ k x) - x))) k 7 (((up σ k 2 ((σ k 2) - ((f_X4_placeIn σ k x) - x))) k 7) + ((f_X4_placeIn σ k x) - x))) k 9 (((up (up σ k 2 ((σ k 2) - ((f_X4_placeIn σ k x) - x))) k 7 (((up σ k 2 ((σ k 2) - ((f_X4_placeIn σ k x) - x))) k 7) + ((f_X4_placeIn σ k x) - x))) k 9) + (ab ((f_X4_placeIn σ k x) - x)))
  else
    up (up (up σ k 2 ((σ k 2) - (f_X4_placeIn σ k x))) k 7 (((up σ k 2 ((σ k 2) - (f_X4_placeIn σ k x))) k 7) + (f_X4_placeIn σ k x))) k 9 (((up (up σ k 2 ((σ k 2) - (f_X4_placeIn σ k x))) k 7 (((up σ k 2 ((σ k 2) - (f_X4_placeIn σ k x))) k 7) + (f_X4_placeIn σ k x))) k 9) + (ab (f_X4_placeIn σ k x)))
set_option maxHeartbeats 4000000 in
set_option maxRecDepth 100000 in
theorem k_X4_passMark (l : Launch) (D : va_G) (cy : Nat → ClassId) (z : Nat) (o : Int64) (d : UInt64) (σ τ : Sg) {k : Nat} (hk : kd k = 4) (x : Int32) : KI l yX4_passMark cX4_passMark 4 (some .int) rm_X4_passMark D cy z [.ref (z + k), .int x] o d σ τ (f_X4_passMark σ k x) (s_X4_passMark σ k x) τ := by
  refine met_of RX4 (plainFor_of_name (by decide)) rfl (Nat.le_of_ble_eq_true rfl) ?_
  intro p e s m args below meth c C hP hS ls hl
  obtain ⟨hx, hb, hr, hml, hown, hW, hlocks, hAm⟩ := id C
  have hl : lv_has ls 4 [(0, .ref (z + k)), (1, .int x)] := hl
  refine lv_aload_n hx hb dX4_passMark_0 rfl (lv_at hl 0 rfl) ?_
  refine lv_iload_n hx hb dX4_passMark_1 rfl (lv_at hl 1 rfl) ?_
  refine thn_I (run_V (As := [.int x]) (rest := []) C (k_X4_placeIn l D cy z o d σ τ hk x) hP hS cw_X4_placeIn (mA2 (i := 225) rfl rfl) hk ⟨rfl, rfl⟩ ⟨Nat.le_of_ble_eq_true rfl, Nat.le_of_ble_eq_true rfl⟩ rfl (Nat.le_of_ble_eq_true rfl) hl.1 ⟨Nat.zero_le _, Nat.zero_le _⟩ dX4_passMark_2) hS (fun H locs hP hS => ?_)
  refine lv_istore_n (lv' := [(2, .int (f_X4_placeIn σ k x)), (0, .ref (z + k)), (1, .int x)]) hx hb dX4_passMark_5 rfl hl (by decide) rfl (fun ls hl => ?_)
  refine lv_iconst (v := 2) hx hb dX4_passMark_6 (by decide) ?_
  refine lv_iload_n hx hb dX4_passMark_7 rfl (lv_at hl 0 rfl) ?_
  refine lv_imul hx hb dX4_passMark_8 ?_
  refine lv_iload_n hx hb dX4_passMark_9 rfl (lv_at hl 2 rfl) ?_
  refine lv_icmp_gt (tgt := 17) hx hb dX4_passMark_10 (by decide) (fun c_10 => ?_) (fun c_10 => ?_)
  · refine lv_iload_n hx hb dX4_passMark_17 rfl (lv_at hl 0 rfl) ?_
    refine lv_iload_n hx hb dX4_passMark_18 rfl (lv_at hl 2 rfl) ?_
    refine lv_isub hx hb dX4_passMark_19 ?_
    refine lv_istore_n (lv' := [(3, .int ((f_X4_placeIn σ k x) - x)), (2, .int (f_X4_placeIn σ k x)), (0, .ref (z + k)), (1, .int x)]) hx hb dX4_passMark_20 rfl hl (by decide) rfl (fun ls hl => ?_)
    refine lv_aload_n hx hb dX4_passMark_21 rfl (lv_at hl 2 rfl) ?_
    refine lv_dup hx hb dX4_passMark_22 rfl ?_
    refine gf_X4_77 C hP hk dX4_passMark_23 ?_
    refine lv_iload_n hx hb dX4_passMark_26 rfl (lv_at hl 0 rfl) ?_
    refine lv_isub hx hb dX4_passMark_27 ?_
    refine pf_X4_77 C hP hS hk dX4_passMark_28 (fun H locs hP hS => ?_)
    refine lv_aload_n hx hb dX4_passMark_31 rfl (lv_at hl 2 rfl) ?_
    refine lv_dup hx hb dX4_passMark_32 rfl ?_
    refine gf_X4_99 C hP hk dX4_passMark_33 ?_
    refine lv_iload_n hx hb dX4_passMark_36 rfl (lv_at hl 0 rfl) ?_
    refine lv_iadd hx hb dX4_passMark_37 ?_
    refine pf_X4_99 C hP hS hk dX4_passMark_38 (fun H locs hP hS => ?_)
    refine lv_aload_n hx hb dX4_passMark_41 rfl (lv_at hl 2 rfl) ?_
    refine lv_dup hx hb dX4_passMark_42 rfl ?_
    refine gf_X4_102 C hP hk dX4_passMark_43 ?_
    refine lv_iload_n hx hb dX4_passMark_46 rfl (lv_at hl 0 rfl) ?_
    refine g_abs C (mA2 (i := 168) rfl rfl) (Nat.le_of_ble_eq_true rfl) (Nat.le_of_ble_eq_true rfl) ⟨Nat.zero_le _, Nat.zero_le _⟩ hl.1 dX4_passMark_47 ?_
    refine lv_iadd hx hb dX4_passMark_50 ?_
    refine pf_X4_102 C hP hS hk dX4_passMark_51 (fun H locs hP hS => ?_)
    refine lv_iload_n hx hb dX4_passMark_54 rfl (lv_at hl 0 rfl) ?_
    exact ret_I C hP hS (nar_i _) rfl (by unfold f_X4_passMark; rw [if_pos c_10]) (by unfold s_X4_passMark; rw [if_pos c_10]) rfl dX4_passMark_55
  · refine lv_iload_n hx hb dX4_passMark_13 rfl (lv_at hl 0 rfl) ?_
    refine lv_goto (tgt := 20) hx hb dX4_passMark_14 (by decide) ?_
    refine lv_istore_n (lv' := [(3, .int (f_X4_placeIn σ k x)), (2, .int (f_X4_placeIn σ k x)), (0, .ref (z + k)), (1, .int x)]) hx hb dX4_passMark_20 rfl hl (by decide) rfl (fun ls hl => ?_)
    refine lv_aload_n hx hb dX4_passMark_21 rfl (lv_at hl 2 rfl) ?_
    refine lv_dup hx hb dX4_passMark_22 rfl ?_
    refine gf_X4_77 C hP hk dX4_passMark_23 ?_
    refine lv_iload_n hx hb dX4_passMark_26 rfl (lv_at hl 0 rfl) ?_
    refine lv_isub hx hb dX4_passMark_27 ?_
    refine pf_X4_77 C hP hS hk dX4_passMark_28 (fun H locs hP hS => ?_)
    refine lv_aload_n hx hb dX4_passMark_31 rfl (lv_at hl 2 rfl) ?_
    refine lv_dup hx hb dX4_passMark_32 rfl ?_
    refine gf_X4_99 C hP hk dX4_passMark_33 ?_
    refine lv_iload_n hx hb dX4_passMark_36 rfl (lv_at hl 0 rfl) ?_
    refine lv_iadd hx hb dX4_passMark_37 ?_
    refine pf_X4_99 C hP hS hk dX4_passMark_38 (fun H locs hP hS => ?_)
    refine lv_aload_n hx hb dX4_passMark_41 rfl (lv_at hl 2 rfl) ?_
    refine lv_dup hx hb dX4_passMark_42 rfl ?_
    refine gf_X4_102 C hP hk dX4_passMark_43 ?_
    refine lv_iload_n hx hb dX4_passMark_46 rfl (lv_at hl 0 rfl) ?_
    refine g_abs C (mA2 (i := 168) rfl rfl) (Nat.le_of_ble_eq_true rfl) (Nat.le_of_ble_eq_true rfl) ⟨Nat.zero_le _, Nat.zero_le _⟩ hl.1 dX4_passMark_47 ?_
    refine lv_iadd hx hb dX4_passMark_50 ?_
    refine pf_X4_102 C hP hS hk dX4_passMark_51 (fun H locs hP hS => ?_)
    refine lv_iload_n hx hb dX4_passMark_54 rfl (lv_at hl 0 rfl) ?_
    exact ret_I C hP hS (nar_i _) rfl (by unfold f_X4_passMark; rw [if_neg c_10]) (by unfold s_X4_passMark; rw [if_neg c_10]) rfl dX4_passMark_55

theorem cw_X0_snail : cwVt yX0_snail cX0_snail 2 (some (.object "QuadSnail$Snail")) 0 1 := ⟨(mA2 (i := 31) rfl rfl), (mA2 (i := 32) rfl rfl), (mA1 (i := 2) rfl rfl), (mA2 (i := 33) rfl rfl), by decide +kernel, ⟨_, rfl, rfl⟩, by decide⟩
abbrev rm_X0_snail : Room := { frames := 0, cells := 0, slots := 0, locals := 0 }
def f_X0_snail (σ : Sg) (k : Nat) (x : Int32) : Nat :=
  if x = 0 then
    k + 1
  else
    if x = 1 then
      k + 4
    else
      if x = 2 then
        k + 7
      else
        k + 10
set_option maxHeartbeats 4000000 in
set_option maxRecDepth 100000 in
theorem k_X0_snail (l : Launch) (D : va_G) (cy : Nat → ClassId) (z : Nat) (o : Int64) (d : UInt64) (σ τ : Sg) {k : Nat} (hk : kd k = 0) (x : Int32) : KR l yX0_snail cX0_snail 2 (some (.object "QuadSnail$Snail")) rm_X0_snail D cy z [.ref (z + k), .int x] o d σ τ (f_X0_snail σ k x) σ τ := by
  refine met_of RX0 (plainFor_of_name (by decide)) rfl (Nat.le_of_ble_eq_true rfl) ?_
  intro p e s m args below meth c C hP hS ls hl
  obtain ⟨hx, hb, hr, hml, hown, hW, hlocks, hAm⟩ := id C
  have hl : lv_has ls 2 [(0, .ref (z + k)), (1, .int x)] := hl
  refine lv_iload_n hx hb dX0_snail_0 rfl (lv_at hl 1 rfl) ?_
  by_cases c_1_0 : x = 0
  · refine lv_tableIn (tgt := 28) hx hb dX0_snail_1 (by rw [c_1_0]; decide) (by rw [c_1_0]; decide) (by rw [c_1_0]; rfl) (by decide) ?_
    refine lv_aload_n hx hb dX0_snail_28 rfl (lv_at hl 0 rfl) ?_
    refine gf_X0_12 C hP hk dX0_snail_29 ?_
    exact ret_R C hP hS rfl (by unfold f_X0_snail; rw [if_pos c_1_0]) rfl rfl dX0_snail_32
  · by_cases c_1_1 : x = 1
    · refine lv_tableIn (tgt := 33) hx hb dX0_snail_1 (by rw [c_1_1]; decide) (by rw [c_1_1]; decide) (by rw [c_1_1]; rfl) (by decide) ?_
      refine lv_aload_n hx hb dX0_snail_33 rfl (lv_at hl 0 rfl) ?_
      refine gf_X0_18 C hP hk dX0_snail_34 ?_
      exact ret_R C hP hS rfl (by unfold f_X0_snail; rw [if_neg c_1_0, if_pos c_1_1]) rfl rfl dX0_snail_37
    · by_cases c_1_2 : x = 2
      · refine lv_tableIn (tgt := 38) hx hb dX0_snail_1 (by rw [c_1_2]; decide) (by rw [c_1_2]; decide) (by rw [c_1_2]; rfl) (by decide) ?_
        refine lv_aload_n hx hb dX0_snail_38 rfl (lv_at hl 0 rfl) ?_
        refine gf_X0_21 C hP hk dX0_snail_39 ?_
        exact ret_R C hP hS rfl (by unfold f_X0_snail; rw [if_neg c_1_0, if_neg c_1_1, if_pos c_1_2]) rfl rfl dX0_snail_42
      · refine lv_tableOut (tgt := 43) hx hb dX0_snail_1 (tab_out3 (lv_neT c_1_0 (k := 0) (a := 0) rfl) (lv_neT c_1_1 (k := 1) (a := 1) rfl) (lv_neT c_1_2 (k := 2) (a := 2) rfl)) (by decide) ?_
        refine lv_aload_n hx hb dX0_snail_43 rfl (lv_at hl 0 rfl) ?_
        refine gf_X0_24 C hP hk dX0_snail_44 ?_
        exact ret_R C hP hS rfl (by unfold f_X0_snail; rw [if_neg c_1_0, if_neg c_1_1, if_neg c_1_2]) rfl rfl dX0_snail_47
theorem kr_X0_snail (σ : Sg) {k : Nat} (hk : kd k = 0) (x : Int32) : kd (f_X0_snail σ k x) = 4 := by
  unfold f_X0_snail
  repeat' split
  all_goals first | exact kd0_1 hk | exact kd0_4 hk | exact kd0_7 hk | exact kd0_10 hk

theorem cw_X3_latest : cwVt yX3_latest cX3_latest 1 (some (.object "QuadSnail$Garden")) 3 0 := ⟨(mA2 (i := 130) rfl rfl), (mA0 (i := 2) rfl rfl), (mA1 (i := 5) rfl rfl), (mA2 (i := 131) rfl rfl), by decide +kernel, ⟨_, rfl, rfl⟩, by decide⟩
abbrev rm_X3_latest : Room := { frames := 0, cells := 0, slots := 0, locals := 0 }
def f_X3_latest (σ : Sg) (k : Nat) : Nat :=
  if ((((σ k 4) + (σ k 5)) - 1) - (((σ k 4) + (σ k 5)) - 1) / 4 * 4) = 0 then
    k + 1
  else
    if ((((σ k 4) + (σ k 5)) - 1) - (((σ k 4) + (σ k 5)) - 1) / 4 * 4) = 1 then
      k + 14
    else
      if ((((σ k 4) + (σ k 5)) - 1) - (((σ k 4) + (σ k 5)) - 1) / 4 * 4) = 2 then
        k + 27
      else
        k + 40
set_option maxHeartbeats 4000000 in
set_option maxRecDepth 100000 in
theorem k_X3_latest (l : Launch) (D : va_G) (cy : Nat → ClassId) (z : Nat) (o : Int64) (d : UInt64) (σ τ : Sg) {k : Nat} (hk : kd k = 3) : KR l yX3_latest cX3_latest 1 (some (.object "QuadSnail$Garden")) rm_X3_latest D cy z [.ref (z + k)] o d σ τ (f_X3_latest σ k) σ τ := by
  refine met_of RX3 (plainFor_of_name (by decide)) rfl (Nat.le_of_ble_eq_true rfl) ?_
  intro p e s m args below meth c C hP hS ls hl
  obtain ⟨hx, hb, hr, hml, hown, hW, hlocks, hAm⟩ := id C
  have hl : lv_has ls 1 [(0, .ref (z + k))] := hl
  refine lv_aload_n hx hb dX3_latest_0 rfl (lv_at hl 0 rfl) ?_
  refine gf_X3_31 C hP hk dX3_latest_1 ?_
  refine lv_aload_n hx hb dX3_latest_4 rfl (lv_at hl 0 rfl) ?_
  refine gf_X3_27 C hP hk dX3_latest_5 ?_
  refine lv_iadd hx hb dX3_latest_8 ?_
  refine lv_iconst (v := 1) hx hb dX3_latest_9 (by decide) ?_
  refine lv_isub hx hb dX3_latest_10 ?_
  refine lv_iconst (v := 4) hx hb dX3_latest_11 (by decide) ?_
  refine lv_irem hx hb dX3_latest_12 (by decide) ?_
  by_cases c_13_0 : ((((σ k 4) + (σ k 5)) - 1) - (((σ k 4) + (σ k 5)) - 1) / 4 * 4) = 0
  · refine lv_tableIn (tgt := 40) hx hb dX3_latest_13 (by rw [c_13_0]; decide) (by rw [c_13_0]; decide) (by rw [c_13_0]; rfl) (by decide) ?_
    refine lv_aload_n hx hb dX3_latest_40 rfl (lv_at hl 0 rfl) ?_
    refine gf_X3_12 C hP hk dX3_latest_41 ?_
    exact ret_R C hP hS rfl (by unfold f_X3_latest; rw [if_pos c_13_0]) rfl rfl dX3_latest_44
  · by_cases c_13_1 : ((((σ k 4) + (σ k 5)) - 1) - (((σ k 4) + (σ k 5)) - 1) / 4 * 4) = 1
    · refine lv_tableIn (tgt := 45) hx hb dX3_latest_13 (by rw [c_13_1]; decide) (by rw [c_13_1]; decide) (by rw [c_13_1]; rfl) (by decide) ?_
      refine lv_aload_n hx hb dX3_latest_45 rfl (lv_at hl 0 rfl) ?_
      refine gf_X3_18 C hP hk dX3_latest_46 ?_
      exact ret_R C hP hS rfl (by unfold f_X3_latest; rw [if_neg c_13_0, if_pos c_13_1]) rfl rfl dX3_latest_49
    · by_cases c_13_2 : ((((σ k 4) + (σ k 5)) - 1) - (((σ k 4) + (σ k 5)) - 1) / 4 * 4) = 2
      · refine lv_tableIn (tgt := 50) hx hb dX3_latest_13 (by rw [c_13_2]; decide) (by rw [c_13_2]; decide) (by rw [c_13_2]; rfl) (by decide) ?_
        refine lv_aload_n hx hb dX3_latest_50 rfl (lv_at hl 0 rfl) ?_
        refine gf_X3_21 C hP hk dX3_latest_51 ?_
        exact ret_R C hP hS rfl (by unfold f_X3_latest; rw [if_neg c_13_0, if_neg c_13_1, if_pos c_13_2]) rfl rfl dX3_latest_54
      · refine lv_tableOut (tgt := 55) hx hb dX3_latest_13 (tab_out3 (lv_neT c_13_0 (k := 0) (a := 0) rfl) (lv_neT c_13_1 (k := 1) (a := 1) rfl) (lv_neT c_13_2 (k := 2) (a := 2) rfl)) (by decide) ?_
        refine lv_aload_n hx hb dX3_latest_55 rfl (lv_at hl 0 rfl) ?_
        refine gf_X3_24 C hP hk dX3_latest_56 ?_
        exact ret_R C hP hS rfl (by unfold f_X3_latest; rw [if_neg c_13_0, if_neg c_13_1, if_neg c_13_2]) rfl rfl dX3_latest_59
theorem kr_X3_latest (σ : Sg) {k : Nat} (hk : kd k = 3) : kd (f_X3_latest σ k) = 0 := by
  unfold f_X3_latest
  repeat' split
  all_goals first | exact kd3_1 hk | exact kd3_14 hk | exact kd3_27 hk | exact kd3_40 hk
end
section
theorem cw_X1_copyFrom : cwVt yX1_copyFrom cX1_copyFrom 3 none 1 1 := ⟨(mA2 (i := 141) rfl rfl), (mA2 (i := 142) rfl rfl), (mA1 (i := 4) rfl rfl), (mA2 (i := 143) rfl rfl), by decide +kernel, ⟨_, rfl, rfl⟩, by decide⟩
abbrev rm_X1_copyFrom : Room := { frames := 0, cells := 0, slots := 0, locals := 0 }
def gs_X1_copyFrom (k j : Nat) : Nat → Nat → Sg → Sg
  | 0, _, σ => σ
  | n + 1, i, σ =>
    if 48 ≤ i then
      up (up σ k 1 (σ j 1)) k 2 ((up σ k 1 (σ j 1)) j 2)
    else
      gs_X1_copyFrom k j n (i + 1) (up σ (k + 1) i (σ (j + 1) i))
set_option maxHeartbeats 4000000 in
set_option maxRecDepth 100000 in
theorem lp_X1_copyFrom {p : Program} {l : Launch} {e : Env} {s : State} {m : MethodId} {args : Array Value} {below : List Frame} {meth : Method} {c : Code} {D : va_G} {cy : Nat → ClassId} {z : Nat} (C : Bd p s m args meth c cX1_copyFrom 3 none RX1 D cy z) (o : Int64) (d : UInt64) {k : Nat} (hk : kd k = 1) {j : Nat} (hk_j : kd j = 1) {σ9 : Sg} :
    ∀ (n : Nat) (i : Nat) (σ τ : Sg) (H : Heap) (locs : List Loc), (i ≤ 48 ∧ 49 ≤ i + n) → (gs_X1_copyFrom k j n i σ = σ9) → WP D cy z σ τ o d H → va_S (fz z) s.heap H locs → ∀ ls : Array Slot, lv_has ls 3 [(0, .ref (z + k)), (1, .ref (z + j)), (2, .int (nI i))] → W p l e rm_X1_copyFrom s m args below meth c H locs 0 0 (MQ below (PoV D cy z o d σ9 τ) args s 0 0 (fz z)) (F0 m 2 ls []) := by
  obtain ⟨hx, hb, hr, hml, hown, hW, hlocks, hAm⟩ := id C
  intro n
  induction n with
  | zero =>
    intro _ σ τ H locs hn9 _ hP hS ls hl
    exact absurd hn9 (by omega)
  | succ n ih =>
    intro i σ τ H locs hn9 hs9 hP hS ls hl
    refine lv_iload_n hx hb dX1_copyFrom_2 rfl (lv_at hl 2 rfl) ?_
    refine lv_aload_n hx hb dX1_copyFrom_3 rfl (lv_at hl 0 rfl) ?_
    refine gf_X1_11 C hP hk dX1_copyFrom_4 ?_
    refine ln_7 C hP (kd1_1 hk) dX1_copyFrom_7 ?_
    refine lv_icmp_ge (tgt := 38) hx hb dX1_copyFrom_8 (by decide) (fun c_8 => ?_) (fun c_8 => ?_)
    · have d_8 : 48 ≤ i := (cI_le (a := 48) (b := i) rfl rfl (by omega) (by omega)).mp c_8
      refine lv_aload_n hx hb dX1_copyFrom_38 rfl (lv_at hl 0 rfl) ?_
      refine lv_aload_n hx hb dX1_copyFrom_39 rfl (lv_at hl 1 rfl) ?_
      refine gf_X1_19 C hP hk_j dX1_copyFrom_40 ?_
      refine pf_X1_19 C hP hS hk dX1_copyFrom_43 (fun H locs hP hS => ?_)
      refine lv_aload_n hx hb dX1_copyFrom_46 rfl (lv_at hl 0 rfl) ?_
      refine lv_aload_n hx hb dX1_copyFrom_47 rfl (lv_at hl 1 rfl) ?_
      refine gf_X1_15 C hP hk_j dX1_copyFrom_48 ?_
      refine pf_X1_15 C hP hS hk dX1_copyFrom_51 (fun H locs hP hS => ?_)
      exact ret_V C hP hS (by rw [← hs9, gs_X1_copyFrom]; rw [if_pos d_8]) rfl dX1_copyFrom_54
    · have d_8 : ¬ (48 ≤ i) := fun h9 => c_8 ((cI_le (a := 48) (b := i) rfl rfl (by omega) (by omega)).mpr h9)
      refine lv_iload_n hx hb dX1_copyFrom_11 rfl (lv_at hl 2 rfl) ?_
      refine lv_aload_n hx hb dX1_copyFrom_12 rfl (lv_at hl 1 rfl) ?_
      refine gf_X1_11 C hP hk_j dX1_copyFrom_13 ?_
      refine ln_7 C hP (kd1_1 hk_j) dX1_copyFrom_16 ?_
      refine lv_icmp_ge (tgt := 38) hx hb dX1_copyFrom_17 (by decide) (fun c_17 => ?_) (fun c_17 => ?_)
      · exact absurd c_17 c_8
      · refine lv_aload_n hx hb dX1_copyFrom_20 rfl (lv_at hl 0 rfl) ?_
        refine gf_X1_11 C hP hk dX1_copyFrom_21 ?_
        refine lv_iload_n hx hb dX1_copyFrom_24 rfl (lv_at hl 2 rfl) ?_
        refine lv_aload_n hx hb dX1_copyFrom_25 rfl (lv_at hl 1 rfl) ?_
        refine gf_X1_11 C hP hk_j dX1_copyFrom_26 ?_
        refine lv_iload_n hx hb dX1_copyFrom_29 rfl (lv_at hl 2 rfl) ?_
        refine al_7 C hP (kd1_1 hk_j) (vp_in_nI (by omega) (by decide)) dX1_copyFrom_30 ?_
        rw [nI_clamp (by omega)]
        refine as_7 C hP hS (kd1_1 hk) (vp_in_nI (by omega) (by decide)) dX1_copyFrom_31 (fun H locs hP hS => ?_)
        rw [nI_clamp (n := i) (by omega)] at hP
        refine lv_iinc (v := nI (i + 1)) (lv' := [(2, .int (nI (i + 1))), (0, .ref (z + k)), (1, .ref (z + j))]) hx hb dX1_copyFrom_32 hl (k := 2) rfl (nI_1 i) (by decide) rfl (fun ls hl => ?_)
        refine lv_goto (tgt := 2) hx hb dX1_copyFrom_35 (by decide) ?_
        exact ih (i + 1) (up σ (k + 1) i (σ (j + 1) i)) τ _ _ (⟨by omega, by omega⟩) (by rw [← hs9, gs_X1_copyFrom]; rw [if_neg d_8]) hP hS ls (lv_sub hl [1, 2, 0] rfl)
def s_X1_copyFrom (σ : Sg) (k : Nat) (j : Nat) : Sg :=
  gs_X1_copyFrom k j 49 0 σ
set_option maxHeartbeats 4000000 in
set_option maxRecDepth 100000 in
theorem k_X1_copyFrom (l : Launch) (D : va_G) (cy : Nat → ClassId) (z : Nat) (o : Int64) (d : UInt64) (σ τ : Sg) {k : Nat} (hk : kd k = 1) (j : Nat) (hk_j : kd j = 1) : KV l yX1_copyFrom cX1_copyFrom 3 rm_X1_copyFrom D cy z [.ref (z + k), .ref (z + j)] o d σ τ (s_X1_copyFrom σ k j) τ := by
  refine met_of RX1 (plainFor_of_name (by decide)) rfl (Nat.le_of_ble_eq_true rfl) ?_
  intro p e s m args below meth c C hP hS ls hl
  obtain ⟨hx, hb, hr, hml, hown, hW, hlocks, hAm⟩ := id C
  have hl : lv_has ls 3 [(0, .ref (z + k)), (1, .ref (z + j))] := hl
  refine lv_iconst (v := 0) hx hb dX1_copyFrom_0 (by decide) ?_
  refine lv_istore_n (lv' := [(2, .int 0), (0, .ref (z + k)), (1, .ref (z + j))]) hx hb dX1_copyFrom_1 rfl hl (by decide) rfl (fun ls hl => ?_)
  exact lp_X1_copyFrom C o d hk hk_j (49) 0 σ τ _ _ (⟨by omega, by omega⟩) rfl hP hS ls (lv_sub hl [1, 2, 0] rfl)

theorem cw_X4_canRetrace : cwVt yX4_canRetrace cX4_canRetrace 5 (some .boolean) 4 1 := ⟨(mA2 (i := 239) rfl rfl), (mA3 (i := 0) rfl rfl), (mA1 (i := 3) rfl rfl), (mA3 (i := 1) rfl rfl), by decide +kernel, ⟨_, rfl, rfl⟩, by decide⟩
abbrev rm_X4_canRetrace : Room := { frames := 3, cells := 0, slots := 0, locals := 65 }
def gf_X4_canRetrace (σ : Sg) (k L : Nat) : Nat → Int32 → Int32 → Nat → Int32
  | 0, _, _, _ => 0
  | n + 1, x2, x3, i =>
    if L ≤ i then
      f_X4_hasRoom σ k x2 x3
    else
      gf_X4_canRetrace σ k L n (x2 + (f_X1_spent σ (k + 1) (nI i))) (x3 + (ab (f_X1_step σ (k + 1) (nI i)))) (i + 1)
set_option maxHeartbeats 4000000 in
set_option maxRecDepth 100000 in
theorem lp_X4_canRetrace {p : Program} {l : Launch} {e : Env} {s : State} {m : MethodId} {args : Array Value} {below : List Frame} {meth : Method} {c : Code} {D : va_G} {cy : Nat → ClassId} {z : Nat} (C : Bd p s m args meth c cX4_canRetrace 5 (some .boolean) RX4 D cy z) (o : Int64) (d : UInt64) {k : Nat} (hk : kd k = 4) (L : Nat) (x : Int32) {r9 : Int32} :
    ∀ (n : Nat) (x2 : Int32) (x3 : Int32) (i : Nat) (σ τ : Sg) (H : Heap) (locs : List Loc), (σ (k + 1) 2 = nI L) → (L ≤ 16 ∧ i ≤ 2000 ∧ L + 1 ≤ i + n ∧ 1 ≤ n) → (gf_X4_canRetrace σ k L n x2 x3 i = r9) → WP D cy z σ τ o d H → va_S (fz z) s.heap H locs → ∀ ls : Array Slot, lv_has ls 5 [(0, .ref (z + k)), (1, .int x), (2, .int x2), (3, .int x3), (4, .int (nI i))] → W p l e rm_X4_canRetrace s m args below meth c H locs 0 0 (MQ below (PoI D cy z o d r9 σ τ) args s 0 0 (fz z)) (F0 m 28 ls []) := by
  obtain ⟨hx, hb, hr, hml, hown, hW, hlocks, hAm⟩ := id C
  intro n
  induction n with
  | zero =>
    intro _ _ _ σ τ H locs hL hn9 _ hP hS ls hl
    exact absurd hn9 (by omega)
  | succ n ih =>
    intro x2 x3 i σ τ H locs hL hn9 hr9 hP hS ls hl
    refine lv_iload hx hb dX4_canRetrace_28 (lv_at hl 4 rfl) ?_
    refine lv_aload_n hx hb dX4_canRetrace_30 rfl (lv_at hl 0 rfl) ?_
    refine gf_X4_12 C hP hk dX4_canRetrace_31 ?_
    refine gf_X4_49 C hP (kd4_1 hk) dX4_canRetrace_34 ?_
    rw [hL]
    refine lv_icmp_ge (tgt := 73) hx hb dX4_canRetrace_37 (by decide) (fun c_37 => ?_) (fun c_37 => ?_)
    · have d_37 : L ≤ i := (cI_le rfl rfl (by omega) (by omega)).mp c_37
      refine lv_aload_n hx hb dX4_canRetrace_73 rfl (lv_at hl 0 rfl) ?_
      refine lv_iload_n hx hb dX4_canRetrace_74 rfl (lv_at hl 2 rfl) ?_
      refine lv_iload_n hx hb dX4_canRetrace_75 rfl (lv_at hl 3 rfl) ?_
      refine thn_I (run_V (As := [.int x2, .int x3]) (rest := []) C (k_X4_hasRoom l D cy z o d σ τ hk x2 x3) hP hS cw_X4_hasRoom (mA3 (i := 7) rfl rfl) hk ⟨rfl, rfl⟩ ⟨Nat.le_of_ble_eq_true rfl, Nat.le_of_ble_eq_true rfl⟩ rfl (Nat.le_of_ble_eq_true rfl) hl.1 ⟨Nat.zero_le _, Nat.zero_le _⟩ dX4_canRetrace_76) hS (fun H locs hP hS => ?_)
      exact ret_I C hP hS (nz_X4_hasRoom σ k x2 x3) rfl (by rw [← hr9, gf_X4_canRetrace]; rw [if_pos d_37]) rfl rfl dX4_canRetrace_79
    · have d_37 : ¬ (L ≤ i) := fun h9 => c_37 ((cI_le rfl rfl (by omega) (by omega)).mpr h9)
      refine lv_iload_n hx hb dX4_canRetrace_40 rfl (lv_at hl 2 rfl) ?_
      refine lv_aload_n hx hb dX4_canRetrace_41 rfl (lv_at hl 0 rfl) ?_
      refine gf_X4_12 C hP hk dX4_canRetrace_42 ?_
      refine lv_iload hx hb dX4_canRetrace_45 (lv_at hl 4 rfl) ?_
      refine thn_I (run_V (As := [.int (nI i)]) (rest := [.int x2]) C (k_X1_spent l D cy z o d σ τ (kd4_1 hk) (nI i)) hP hS cw_X1_spent (mA3 (i := 2) rfl rfl) (kd4_1 hk) ⟨rfl, rfl⟩ ⟨Nat.le_of_ble_eq_true rfl, Nat.le_of_ble_eq_true rfl⟩ rfl (Nat.le_of_ble_eq_true rfl) hl.1 ⟨Nat.zero_le _, Nat.zero_le _⟩ dX4_canRetrace_47) hS (fun H locs hP hS => ?_)
      refine lv_iadd hx hb dX4_canRetrace_50 ?_
      refine lv_istore_n (lv' := [(2, .int (x2 + (f_X1_spent σ (k + 1) (nI i)))), (0, .ref (z + k)), (1, .int x), (3, .int x3), (4, .int (nI i))]) hx hb dX4_canRetrace_51 rfl hl (by decide) rfl (fun ls hl => ?_)
      refine lv_iload_n hx hb dX4_canRetrace_52 rfl (lv_at hl 3 rfl) ?_
      refine lv_aload_n hx hb dX4_canRetrace_53 rfl (lv_at hl 1 rfl) ?_
      refine gf_X4_12 C hP hk dX4_canRetrace_54 ?_
      refine lv_iload hx hb dX4_canRetrace_57 (lv_at hl 4 rfl) ?_
      refine thn_I (run_V (As := [.int (nI i)]) (rest := [.int x3]) C (k_X1_step l D cy z o d σ τ (kd4_1 hk) (nI i)) hP hS cw_X1_step (mA3 (i := 6) rfl rfl) (kd4_1 hk) ⟨rfl, rfl⟩ ⟨Nat.le_of_ble_eq_true rfl, Nat.le_of_ble_eq_true rfl⟩ rfl (Nat.le_of_ble_eq_true rfl) hl.1 ⟨Nat.zero_le _, Nat.zero_le _⟩ dX4_canRetrace_59) hS (fun H locs hP hS => ?_)
      refine g_abs C (mA2 (i := 168) rfl rfl) (Nat.le_of_ble_eq_true rfl) (Nat.le_of_ble_eq_true rfl) ⟨Nat.zero_le _, Nat.zero_le _⟩ hl.1 dX4_canRetrace_62 ?_
      refine lv_iadd hx hb dX4_canRetrace_65 ?_
      refine lv_istore_n (lv' := [(3, .int (x3 + (ab (f_X1_step σ (k + 1) (nI i))))), (2, .int (x2 + (f_X1_spent σ (k + 1) (nI i)))), (0, .ref (z + k)), (1, .int x), (4, .int (nI i))]) hx hb dX4_canRetrace_66 rfl hl (by decide) rfl (fun ls hl => ?_)
      refine lv_iinc (v := nI (i + 1)) (lv' := [(4, .int (nI (i + 1))), (3, .int (x3 + (ab (f_X1_step σ (k + 1) (nI i))))), (2, .int (x2 + (f_X1_spent σ (k + 1) (nI i)))), (0, .ref (z + k)), (1, .int x)]) hx hb dX4_canRetrace_67 hl (k := 4) rfl (nI_1 i) (by decide) rfl (fun ls hl => ?_)
      refine lv_goto (tgt := 28) hx hb dX4_canRetrace_70 (by decide) ?_
      exact ih (x2 + (f_X1_spent σ (k + 1) (nI i))) (x3 + (ab (f_X1_step σ (k + 1) (nI i)))) (i + 1) σ τ _ _ hL (⟨by omega, by omega, by omega, by omega⟩) (by rw [← hr9, gf_X4_canRetrace]; rw [if_neg d_37]) hP hS ls (lv_sub hl [3, 4, 2, 1, 0] rfl)
def f_X4_canRetrace (σ : Sg) (k : Nat) (x : Int32) : Int32 :=
  if x ≤ (nI (Ln σ (k + 1))) then
    gf_X4_canRetrace σ k (Ln σ (k + 1)) 17 0 0 ((nI (Ln σ (k + 1)) - x).toNatClampNeg)
  else
    0
set_option maxHeartbeats 4000000 in
set_option maxRecDepth 100000 in
theorem k_X4_canRetrace (l : Launch) (D : va_G) (cy : Nat → ClassId) (z : Nat) (o : Int64) (d : UInt64) (σ τ : Sg) {k : Nat} (hk : kd k = 4) (x : Int32) (hG : LGA σ) (hx9 : -1000 ≤ x.toInt ∧ x.toInt ≤ 1000000) : KI l yX4_canRetrace cX4_canRetrace 5 (some .boolean) rm_X4_canRetrace D cy z [.ref (z + k), .int x] o d σ τ (f_X4_canRetrace σ k x) σ τ := by
  refine met_of RX4 (plainFor_of_name (by decide)) rfl (Nat.le_of_ble_eq_true rfl) ?_
  intro p e s m args below meth c C hP hS ls hl
  obtain ⟨hx, hb, hr, hml, hown, hW, hlocks, hAm⟩ := id C
  have hl : lv_has ls 5 [(0, .ref (z + k)), (1, .int x)] := hl
  obtain ⟨hL, hL16⟩ := hG.of (kd4_1 hk)
  refine lv_aload_n hx hb dX4_canRetrace_0 rfl (lv_at hl 0 rfl) ?_
  refine gf_X4_12 C hP hk dX4_canRetrace_1 ?_
  refine gf_X4_49 C hP (kd4_1 hk) dX4_canRetrace_4 ?_
  rw [hL]
  refine lv_iload_n hx hb dX4_canRetrace_7 rfl (lv_at hl 1 rfl) ?_
  refine lv_icmp_ge (tgt := 13) hx hb dX4_canRetrace_8 (by decide) (fun c_8 => ?_) (fun c_8 => ?_)
  · refine lv_iconst (v := 0) hx hb dX4_canRetrace_13 (by decide) ?_
    refine lv_istore_n (lv' := [(2, .int 0), (0, .ref (z + k)), (1, .int x)]) hx hb dX4_canRetrace_14 rfl hl (by decide) rfl (fun ls hl => ?_)
    refine lv_iconst (v := 0) hx hb dX4_canRetrace_15 (by decide) ?_
    refine lv_istore_n (lv' := [(3, .int 0), (2, .int 0), (0, .ref (z + k)), (1, .int x)]) hx hb dX4_canRetrace_16 rfl hl (by decide) rfl (fun ls hl => ?_)
    refine lv_aload_n hx hb dX4_canRetrace_17 rfl (lv_at hl 2 rfl) ?_
    refine gf_X4_12 C hP hk dX4_canRetrace_18 ?_
    refine gf_X4_49 C hP (kd4_1 hk) dX4_canRetrace_21 ?_
    rw [hL]
    refine lv_iload_n hx hb dX4_canRetrace_24 rfl (lv_at hl 3 rfl) ?_
    refine lv_isub hx hb dX4_canRetrace_25 ?_
    have hb9 := cr_b hx9 hL16 c_8
    rw [cr_a hx9 hL16 c_8]
    refine lv_istore (lv' := [(4, .int (nI ((nI (Ln σ (k + 1)) - x).toNatClampNeg))), (3, .int 0), (2, .int 0), (0, .ref (z + k)), (1, .int x)]) hx hb dX4_canRetrace_26 hl (by decide) rfl (fun ls hl => ?_)
    exact lp_X4_canRetrace C o d hk (Ln σ (k + 1)) x (17) 0 0 ((nI (Ln σ (k + 1)) - x).toNatClampNeg) σ τ _ _ hL (⟨by omega, by omega, by omega, by omega⟩) (by unfold f_X4_canRetrace; rw [if_pos c_8]) hP hS ls (lv_sub hl [3, 4, 2, 1, 0] rfl)
  · refine lv_iconst (v := 0) hx hb dX4_canRetrace_11 (by decide) ?_
    exact ret_I C hP hS nar_z0 rfl (by unfold f_X4_canRetrace; rw [if_neg c_8]) rfl rfl dX4_canRetrace_12

theorem cw_X4_retrace : cwVt yX4_retrace cX4_retrace 4 none 4 1 := ⟨(mA3 (i := 10) rfl rfl), (mA3 (i := 11) rfl rfl), (mA1 (i := 3) rfl rfl), (mA3 (i := 12) rfl rfl), by decide +kernel, ⟨_, rfl, rfl⟩, by decide⟩
abbrev rm_X4_retrace : Room := { frames := 3, cells := 0, slots := 0, locals := 65 }
def gs_X4_retrace (k : Nat) (x : Int32) : Nat → Nat → Sg → Sg
  | 0, _, σ => σ
  | n + 1, i, σ =>
    if x ≤ (nI i) then
      σ
    else
      gs_X4_retrace k x n (i + 1) (s_X1_dropLatest (s_X4_move σ k (f_X1_before σ (k + 1) ((σ (k + 1) 2) - 1)) (-(f_X1_step σ (k + 1) ((σ (k + 1) 2) - 1))) (f_X1_spent σ (k + 1) ((σ (k + 1) 2) - 1))) (k + 1))
set_option maxHeartbeats 4000000 in
set_option maxRecDepth 100000 in
theorem lp_X4_retrace {p : Program} {l : Launch} {e : Env} {s : State} {m : MethodId} {args : Array Value} {below : List Frame} {meth : Method} {c : Code} {D : va_G} {cy : Nat → ClassId} {z : Nat} (C : Bd p s m args meth c cX4_retrace 4 none RX4 D cy z) (o : Int64) (d : UInt64) {k : Nat} (hk : kd k = 4) (x : Int32) {σ9 : Sg} :
    ∀ (n : Nat) (i : Nat) (σ τ : Sg) (H : Heap) (locs : List Loc), (x.toInt ≤ 1000000 ∧ (i = 0 ∨ (i : Int) ≤ x.toInt) ∧ x.toInt + 1 ≤ (i : Int) + (n : Int) ∧ 1 ≤ n) → (gs_X4_retrace k x n i σ = σ9) → WP D cy z σ τ o d H → va_S (fz z) s.heap H locs → ∀ ls : Array Slot, lv_has ls 4 [(0, .ref (z + k)), (1, .int x), (2, .int (nI i))] → W p l e rm_X4_retrace s m args below meth c H locs 0 0 (MQ below (PoV D cy z o d σ9 τ) args s 0 0 (fz z)) (F0 m 2 ls []) := by
  obtain ⟨hx, hb, hr, hml, hown, hW, hlocks, hAm⟩ := id C
  intro n
  induction n with
  | zero =>
    intro _ σ τ H locs hn9 _ hP hS ls hl
    exact absurd hn9 (by omega)
  | succ n ih =>
    intro i σ τ H locs hn9 hs9 hP hS ls hl
    refine lv_iload_n hx hb dX4_retrace_2 rfl (lv_at hl 2 rfl) ?_
    refine lv_iload_n hx hb dX4_retrace_3 rfl (lv_at hl 1 rfl) ?_
    refine lv_icmp_ge (tgt := 59) hx hb dX4_retrace_4 (by decide) (fun c_4 => ?_) (fun c_4 => ?_)
    · exact ret_V C hP hS (by rw [← hs9, gs_X4_retrace]; rw [if_pos c_4]) rfl dX4_retrace_59
    · refine lv_aload_n hx hb dX4_retrace_7 rfl (lv_at hl 0 rfl) ?_
      refine gf_X4_12 C hP hk dX4_retrace_8 ?_
      refine gf_X4_49 C hP (kd4_1 hk) dX4_retrace_11 ?_
      refine lv_iconst (v := 1) hx hb dX4_retrace_14 (by decide) ?_
      refine lv_isub hx hb dX4_retrace_15 ?_
      refine lv_istore_n (lv' := [(3, .int ((σ (k + 1) 2) - 1)), (0, .ref (z + k)), (1, .int x), (2, .int (nI i))]) hx hb dX4_retrace_16 rfl hl (by decide) rfl (fun ls hl => ?_)
      refine lv_aload_n hx hb dX4_retrace_17 rfl (lv_at hl 1 rfl) ?_
      refine lv_aload_n hx hb dX4_retrace_18 rfl (lv_at hl 1 rfl) ?_
      refine gf_X4_12 C hP hk dX4_retrace_19 ?_
      refine lv_iload_n hx hb dX4_retrace_22 rfl (lv_at hl 0 rfl) ?_
      refine thn_I (run_V (As := [.int ((σ (k + 1) 2) - 1)]) (rest := [.ref (z + k)]) C (k_X1_before l D cy z o d σ τ (kd4_1 hk) ((σ (k + 1) 2) - 1)) hP hS cw_X1_before (mA3 (i := 13) rfl rfl) (kd4_1 hk) ⟨rfl, rfl⟩ ⟨Nat.le_of_ble_eq_true rfl, Nat.le_of_ble_eq_true rfl⟩ rfl (Nat.le_of_ble_eq_true rfl) hl.1 ⟨Nat.zero_le _, Nat.zero_le _⟩ dX4_retrace_23) hS (fun H locs hP hS => ?_)
      refine lv_aload_n hx hb dX4_retrace_26 rfl (lv_at hl 1 rfl) ?_
      refine gf_X4_12 C hP hk dX4_retrace_27 ?_
      refine lv_iload_n hx hb dX4_retrace_30 rfl (lv_at hl 0 rfl) ?_
      refine thn_I (run_V (As := [.int ((σ (k + 1) 2) - 1)]) (rest := [.int (f_X1_before σ (k + 1) ((σ (k + 1) 2) - 1)), .ref (z + k)]) C (k_X1_step l D cy z o d σ τ (kd4_1 hk) ((σ (k + 1) 2) - 1)) hP hS cw_X1_step (mA3 (i := 6) rfl rfl) (kd4_1 hk) ⟨rfl, rfl⟩ ⟨Nat.le_of_ble_eq_true rfl, Nat.le_of_ble_eq_true rfl⟩ rfl (Nat.le_of_ble_eq_true rfl) hl.1 ⟨Nat.zero_le _, Nat.zero_le _⟩ dX4_retrace_31) hS (fun H locs hP hS => ?_)
      refine lv_ineg hx hb dX4_retrace_34 ?_
      refine lv_aload_n hx hb dX4_retrace_35 rfl (lv_at hl 1 rfl) ?_
      refine gf_X4_12 C hP hk dX4_retrace_36 ?_
      refine lv_iload_n hx hb dX4_retrace_39 rfl (lv_at hl 0 rfl) ?_
      refine thn_I (run_V (As := [.int ((σ (k + 1) 2) - 1)]) (rest := [.int (-(f_X1_step σ (k + 1) ((σ (k + 1) 2) - 1))), .int (f_X1_before σ (k + 1) ((σ (k + 1) 2) - 1)), .ref (z + k)]) C (k_X1_spent l D cy z o d σ τ (kd4_1 hk) ((σ (k + 1) 2) - 1)) hP hS cw_X1_spent (mA3 (i := 2) rfl rfl) (kd4_1 hk) ⟨rfl, rfl⟩ ⟨Nat.le_of_ble_eq_true rfl, Nat.le_of_ble_eq_true rfl⟩ rfl (Nat.le_of_ble_eq_true rfl) hl.1 ⟨Nat.zero_le _, Nat.zero_le _⟩ dX4_retrace_40) hS (fun H locs hP hS => ?_)
      refine thn_V (run_V (As := [.int (f_X1_before σ (k + 1) ((σ (k + 1) 2) - 1)), .int (-(f_X1_step σ (k + 1) ((σ (k + 1) 2) - 1))), .int (f_X1_spent σ (k + 1) ((σ (k + 1) 2) - 1))]) (rest := []) C (k_X4_move l D cy z o d σ τ hk (f_X1_before σ (k + 1) ((σ (k + 1) 2) - 1)) (-(f_X1_step σ (k + 1) ((σ (k + 1) 2) - 1))) (f_X1_spent σ (k + 1) ((σ (k + 1) 2) - 1))) hP hS cw_X4_move (mA2 (i := 160) rfl rfl) hk ⟨rfl, rfl⟩ ⟨Nat.le_of_ble_eq_true rfl, Nat.le_of_ble_eq_true rfl⟩ rfl (Nat.le_of_ble_eq_true rfl) hl.1 ⟨Nat.zero_le _, Nat.zero_le _⟩ dX4_retrace_43) hS (fun H locs hP hS => ?_)
      refine lv_aload_n hx hb dX4_retrace_46 rfl (lv_at hl 1 rfl) ?_
      refine gf_X4_12 C hP hk dX4_retrace_47 ?_
      refine thn_V (run_V (As := []) (rest := []) C (k_X1_dropLatest l D cy z o d (s_X4_move σ k (f_X1_before σ (k + 1) ((σ (k + 1) 2) - 1)) (-(f_X1_step σ (k + 1) ((σ (k + 1) 2) - 1))) (f_X1_spent σ (k + 1) ((σ (k + 1) 2) - 1))) τ (kd4_1 hk)) hP hS cw_X1_dropLatest (mA3 (i := 17) rfl rfl) (kd4_1 hk) ⟨rfl, rfl⟩ ⟨Nat.le_of_ble_eq_true rfl, Nat.le_of_ble_eq_true rfl⟩ rfl (Nat.le_of_ble_eq_true rfl) hl.1 ⟨Nat.zero_le _, Nat.zero_le _⟩ dX4_retrace_50) hS (fun H locs hP hS => ?_)
      refine lv_iinc (v := nI (i + 1)) (lv' := [(2, .int (nI (i + 1))), (3, .int ((σ (k + 1) 2) - 1)), (0, .ref (z + k)), (1, .int x)]) hx hb dX4_retrace_53 hl (k := 3) rfl (nI_1 i) (by decide) rfl (fun ls hl => ?_)
      refine lv_goto (tgt := 2) hx hb dX4_retrace_56 (by decide) ?_
      exact ih (i + 1) (s_X1_dropLatest (s_X4_move σ k (f_X1_before σ (k + 1) ((σ (k + 1) 2) - 1)) (-(f_X1_step σ (k + 1) ((σ (k + 1) 2) - 1))) (f_X1_spent σ (k + 1) ((σ (k + 1) 2) - 1))) (k + 1)) τ _ _ (re_b c_4 hn9) (by rw [← hs9, gs_X4_retrace]; rw [if_neg c_4]) hP hS ls (lv_sub hl [2, 3, 0] rfl)
def s_X4_retrace (σ : Sg) (k : Nat) (x : Int32) : Sg :=
  gs_X4_retrace k x (x.toNatClampNeg + 1) 0 σ
set_option maxHeartbeats 4000000 in
set_option maxRecDepth 100000 in
theorem k_X4_retrace (l : Launch) (D : va_G) (cy : Nat → ClassId) (z : Nat) (o : Int64) (d : UInt64) (σ τ : Sg) {k : Nat} (hk : kd k = 4) (x : Int32) (hx9 : x.toInt ≤ 1000000) : KV l yX4_retrace cX4_retrace 4 rm_X4_retrace D cy z [.ref (z + k), .int x] o d σ τ (s_X4_retrace σ k x) τ := by
  refine met_of RX4 (plainFor_of_name (by decide)) rfl (Nat.le_of_ble_eq_true rfl) ?_
  intro p e s m args below meth c C hP hS ls hl
  obtain ⟨hx, hb, hr, hml, hown, hW, hlocks, hAm⟩ := id C
  have hl : lv_has ls 4 [(0, .ref (z + k)), (1, .int x)] := hl
  refine lv_iconst (v := 0) hx hb dX4_retrace_0 (by decide) ?_
  refine lv_istore_n (lv' := [(2, .int 0), (0, .ref (z + k)), (1, .int x)]) hx hb dX4_retrace_1 rfl hl (by decide) rfl (fun ls hl => ?_)
  exact lp_X4_retrace C o d hk x (x.toNatClampNeg + 1) 0 σ τ _ _ (⟨hx9, Or.inl rfl, by have := i32_nat x; omega, by omega⟩) rfl hP hS ls (lv_sub hl [1, 2, 0] rfl)

theorem cw_X4_copyFrom : cwVt yX4_copyFrom cX4_copyFrom 2 none 4 1 := ⟨(mA2 (i := 137) rfl rfl), (mA2 (i := 138) rfl rfl), (mA1 (i := 3) rfl rfl), (mA2 (i := 139) rfl rfl), by decide +kernel, ⟨_, rfl, rfl⟩, by decide⟩
abbrev rm_X4_copyFrom : Room := { frames := 1, cells := 0, slots := 0, locals := 22 }
def s_X4_copyFrom (σ : Sg) (k : Nat) (j : Nat) : Sg :=
  up (up (up (up (up (up (up (up (up (up (up (s_X1_copyFrom σ (k + 1) (j + 1)) k 1 ((s_X1_copyFrom σ (k + 1) (j + 1)) j 1)) k 2 ((up (s_X1_copyFrom σ (k + 1) (j + 1)) k 1 ((s_X1_copyFrom σ (k + 1) (j + 1)) j 1)) j 2)) k 3 ((up (up (s_X1_copyFrom σ (k + 1) (j + 1)) k 1 ((s_X1_copyFrom σ (k + 1) (j + 1)) j 1)) k 2 ((up (s_X1_copyFrom σ (k + 1) (j + 1)) k 1 ((s_X1_copyFrom σ (k + 1) (j + 1)) j 1)) j 2)) j 3)) k 4 ((up (up (up (s_X1_copyFrom σ (k + 1) (j + 1)) k 1 ((s_X1_copyFrom σ (k + 1) (j + 1)) j 1)) k 2 ((up (s_X1_copyFrom σ (k + 1) (j + 1)) k 1 ((s_X1_copyFrom σ (k + 1) (j + 1)) j 1)) j 2)) k 3 ((up (up (s_X1_copyFrom σ (k + 1) (j + 1)) k 1 ((s_X1_copyFrom σ (k + 1) (j + 1)) j 1)) k 2 ((up (s_X1_copyFrom σ (k + 1) (j + 1)) k 1 ((s_X1_copyFrom σ (k + 1) (j + 1)) j 1)) j 2)) j 3)) j 4)) k 5 ((up (up (up (up (s_X1_copyFrom σ (k + 1) (j + 1)) k 1 ((s_X1_copyFrom σ (k + 1) (j + 1)) j 1)) k 2 ((up (s_X1_copyFrom σ (k + 1) (j + 1)) k 1 ((s_X1_copyFrom σ (k + 1) (j + 1)) j 1)) j 2)) k 3 ((up (up (s_X1_copyFrom σ (k + 1) (j + 1)) k 1 ((s_X1_copyFrom σ (k + 1) (j + 1)) j 1)) k 2 ((up (s_X1_copyFrom σ (k + 1) (j + 1)) k 1 ((s_X1_copyFrom σ (k + 1) (j + 1)) j 1)) j 2)) j 3)) k 4 ((up (up (up (s_X1_copyFrom σ (k + 1) (j + 1)) k 1 ((s_X1_copyFrom σ (k + 1) (j + 1)) j 1)) k 2 ((up (s_X1_copyFrom σ (k + 1) (j + 1)) k 1 ((s_X1_copyFrom σ (k + 1) (j + 1)) j 1)) j 2)) k 3 ((up (up (s_X1_copyFrom σ (k + 1) (j + 1)) k 1 ((s_X1_copyFrom σ (k + 1) (j + 1)) j 1)) k 2 ((up (s_X1_copyFrom σ (k + 1) (j + 1)) k 1 ((s_X1_copyFrom σ (k + 1) (j + 1)) j 1)) j 2)) j 3)) j 4)) j 5)) k 6 ((up (up (up (up (up (s_X1_copyFrom σ (k + 1) (j + 1)) k 1 ((s_X1_copyFrom σ (k + 1) (j + 1)) j 1)) k 2 ((up (s_X1_copyFrom σ (k + 1) (j + 1)) k 1 ((s_X1_copyFrom σ (k + 1) (j + 1)) j 1)) j 2)) k 3 ((up (up (s_X1_copyFrom σ (k + 1) (j + 1)) k 1 ((s_X1_copyFrom σ (k + 1) (j + 1)) j 1)) k 2 ((up (s_X1_copyFrom σ (k + 1) (j + 1)) k 1 ((s_X1_copyFrom σ (k + 1) (j + 1)) j 1)) j 2)) j 3)) k 4 ((up (up (up (s_X1_copyFrom σ (k + 1) (j + 1)) k 1 ((s_X1_copyFrom σ (k + 1) (j + 1)) j 1)) k 2 ((up (s_X1_copyFrom σ (k + 1) (j + 1)) k 1 ((s_X1_copyFrom σ (k + 1) (j + 1)) j 1)) j 2)) k 3 ((up (up (s_X1_copyFrom σ (k + 1) (j + 1)) k 1 ((s_X1_copyFrom σ (k + 1) (j + 1)) j 1)) k 2 ((up (s_X1_copyFrom σ (k + 1) (j + 1)) k 1 ((s_X1_copyFrom σ (k + 1) (j + 1)) j 1)) j 2)) j 3)) j 4)) k 5 ((up (up (up (up (s_X1_copyFrom σ (k + 1) (j + 1)) k 1 ((s_X1_copyFrom σ (k + 1) (j + 1)) j 1)) k 2 ((up (s_X1_copyFrom σ (k + 1) (j + 1)) k 1 ((s_X1_copyFrom σ (k + 1) (j + 1)) j 1)) j 2)) k 3 ((up (up (s_X1_copyFrom σ (k + 1) (j + 1)) k 1 ((s_X1_copyFrom σ (k + 1) (j + 1)) j 1)) k 2 ((up (s_X1_copyFrom σ (k + 1) (j + 1)) k 1 ((s_X1_copyFrom σ (k + 1) (j + 1)) j 1)) j 2)) j 3)) k 4 ((up (up (up (s_X1_copyFrom σ (k + 1) (j + 1)) k 1 ((s_X1_copyFrom σ (k + 1) (j + 1)) j 1)) k 2 ((up (s_X1_copyFrom σ (k + 1) (j + 1)) k 1 ((s_X1_copyFrom σ (k + 1) (j + 1)) j 1)) j 2)) k 3 ((up (up (s_X1_copyFrom σ (k + 1) (j + 1)) k 1 ((s_X1_copyFrom σ (k + 1) (j + 1)) j 1)) k 2 ((up (s_X1_copyFrom σ (k + 1) (j + 1)) k 1 ((s_X1_copyFrom σ (k + 1) (j + 1)) j 1)) j 2)) j 3)) j 4)) j 5)) j 6)) k 7 ((up (up (up (up (up (up (s_X1_copyFrom σ (k + 1) (j + 1)) k 1 ((s_X1_copyFrom σ (k + 1) (j + 1)) j 1)) k 2 ((up (s_X1_copyFrom σ (k + 1) (j + 1)) k 1 ((s_X1_copyFrom σ (k + 1) (j + 1)) j 1)) j 2)) k 3 ((up (up (s_X1_copyFrom σ (k + 1) (j + 1)) k 1 ((s_X1_copyFrom σ (k + 1) (j + 1)) j 1)) k 2 ((up (s_X1_copyFrom σ (k + 1) (j + 1)) k 1 ((s_X1_copyFrom σ (k + 1) (j + 1)) j 1)) j 2)) j 3)) k 4 ((up (up (up (s_X1_copyFrom σ (k + 1) (j + 1)) k 1 ((s_X1_copyFrom σ (k + 1) (j + 1)) j 1)) k 2 ((up (s_X1_copyFrom σ (k + 1) (j + 1)) k 1 ((s_X1_copyFrom σ (k + 1) (j + 1)) j 1)) j 2)) k 3 ((up (up (s_X1_copyFrom σ (k + 1) (j + 1)) k 1 ((s_X1_copyFrom σ (k + 1) (j + 1)) j 1)) k 2 ((up (s_X1_copyFrom σ (k + 1) (j + 1)) k 1 ((s_X1_copyFrom σ (k + 1) (j + 1)) j 1)) j 2)) j 3)) j 4)) k 5 ((up (up (up (up (s_X1_copyFrom σ (k + 1) (j + 1)) k 1 ((s_X1_copyFrom σ (k + 1) (j + 1)) j 1)) k 2 ((up (s_X1_copyFrom σ (k + 1) (j + 1)) k 1 ((s_X1_copyFrom σ (k + 1) (j + 1)) j 1)) j 2)) k 3 ((up (up (s_X1_copyFrom σ (k + 1) (j + 1)) k 1 ((s_X1_copyFrom σ (k + 1) (j + 1)) j 1)) k 2 ((up (s_X1_copyFrom σ (k + 1) (j + 1)) k 1 ((s_X1_copyFrom σ (k + 1) (j + 1)) j 1)) j 2)) j 3)) k 4 ((up (up (up (s_X1_copyFrom σ (k + 1) (j + 1)) k 1 ((s_X1_copyFrom σ (k + 1) (j + 1)) j 1)) k 2 ((up (s_X1_copyFrom σ (k + 1) (j + 1)) k 1 ((s_X1_copyFrom σ (k + 1) (j + 1)) j 1)) j 2)) k 3 ((up (up (s_X1_copyFrom σ (k + 1) (j + 1)) k 1 ((s_X1_copyFrom σ (k + 1) (j + 1)) j 1)) k 2 ((up (s_X1_copyFrom σ (k + 1) (j + 1)) k 1 ((s_X1_copyFrom σ (k + 1) (j + 1)) j 1)) j 2)) j 3)) j 4)) j 5)) k 6 ((up (up (up (up (up (s_X1_copyFrom σ (k + 1) (j + 1)) k 1 ((s_X1_copyFrom σ (k + 1) (j + 1)) j 1)) k 2 ((up (s_X1_copyFrom σ (k + 1) (j + 1)) k 1 ((s_X1_copyFrom σ (k + 1) (j + 1)) j 1)) j 2)) k 3 ((up (up (s_X1_copyFrom σ (k + 1) (j + 1)) k 1 ((s_X1_copyFrom σ (k + 1) (j + 1)) j 1)) k 2 ((up (s_X1_copyFrom σ (k + 1) (j + 1)) k 1 ((s_X1_copyFrom σ (k + 1) (j + 1)) j 1)) j 2)) j 3)) k 4 ((up (up (up (s_X1_copyFrom σ (k + 1) (j + 1)) k 1 ((s_X1_copyFrom σ (k + 1) (j + 1)) j 1)) k 2 ((up (s_X1_copyFrom σ (k + 1) (j + 1)) k 1 ((s_X1_copyFrom σ (k + 1) (j + 1)) j 1)) j 2)) k 3 ((up (up (s_X1_copyFrom σ (k + 1) (j + 1)) k 1 ((s_X1_copyFrom σ (k + 1) (j + 1)) j 1)) k 2 ((up (s_X1_copyFrom σ (k + 1) (j + 1)) k 1 ((s_X1_copyFrom σ (k + 1) (j + 1)) j 1)) j 2)) j 3)) j 4)) k 5 ((up (up (up (up (s_X1_copyFrom σ (k + 1) (j + 1)) k 1 ((s_X1_copyFrom σ (k + 1) (j + 1)) j 1)) k 2 ((up (s_X1_copyFrom σ (k + 1) (j + 1)) k 1 ((s_X1_copyFrom σ (k + 1) (j + 1)) j 1)) j 2)) k 3 ((up (up (s_X1_copyFrom σ (k + 1) (j + 1)) k 1 ((s_X1_copyFrom σ (k + 1) (j + 1)) j 1)) k 2 ((up (s_X1_copyFrom σ (k + 1) (j + 1)) k 1 ((s_X1_copyFrom σ (k + 1) (j + 1)) j 1)) j 2)) j 3)) k 4 ((up (up (up (s_X1_copyFrom σ (k + 1) (j + 1)) k 1 ((s_X1_copyFrom σ (k + 1) (j + 1)) j 1)) k 2 ((up (s_X1_copyFrom σ (k + 1) (j + 1)) k 1 ((s_X1_copyFrom σ (k + 1) (j + 1)) j 1)) j 2)) k 3 ((up (up (s_X1_copyFrom σ (k + 1) (j + 1)) k 1 ((s_X1_copyFrom σ (k + 1) (j + 1)) j 1)) k 2 ((up (s_X1_copyFrom σ (k + 1) (j + 1)) k 1 ((s_X1_copyFrom σ (k + 1) (j + 1)) j 1)) j 2)) j 3)) j 4)) j 5)) j 6)) j 7)) k 8 ((up (up (up (up (up (up (up (s_X1_copyFrom σ (k + 1) (j + 1)) k 1 ((s_X1_copyFrom σ (k + 1) (j + 1)) j 1)) k 2 ((up (s_X1_copyFrom σ (k + 1) (j + 1)) k 1 ((s_X1_copyFrom σ (k + 1) (j + 1)) j 1)) j 2)) k 3 ((up (up (s_X1_copyFrom σ (k + 1) (j + 1)) k 1 ((s_X1_copyFrom σ (k + 1) (j + 1)) j 1)) k 2 ((up (s_X1_copyFrom σ (k + 1) (j + 1)) k 1 ((s_X1_copyFrom σ (k + 1) (j + 1)) j 1)) j 2)) j 3)) k 4 ((up (up (up (s_X1_copyFrom σ (k + 1) (j + 1)) k 1 ((s_X1_copyFrom σ (k + 1) (j + 1)) j 1)) k 2 ((up (s_X1_copyFrom σ (k + 1) (j + 1)) k 1 ((s_X1_copyFrom σ (k + 1) (j + 1)) j 1)) j 2)) k 3 ((up (up (s_X1_copyFrom σ (k + 1) (j + 1)) k 1 ((s_X1_copyFrom σ (k + 1) (j + 1)) j 1)) k 2 ((up (s_X1_copyFrom σ (k + 1) (j + 1)) k 1 ((s_X1_copyFrom σ (k + 1) (j + 1)) j 1)) j 2)) j 3)) j 4)) k 5 ((up (up (up (up (s_X1_copyFrom σ (k + 1) (j + 1)) k 1 ((s_X1_copyFrom σ (k + 1) (j + 1)) j 1)) k 2 ((up (s_X1_copyFrom σ (k + 1) (j + 1)) k 1 ((s_X1_copyFrom σ (k + 1) (j + 1)) j 1)) j 2)) k 3 ((up (up (s_X1_copyFrom σ (k + 1) (j + 1)) k 1 ((s_X1_copyFrom σ (k + 1) (j + 1)) j 1)) k 2 ((up (s_X1_copyFrom σ (k + 1) (j + 1)) k 1 ((s_X1_copyFrom σ (k + 1) (j + 1)) j 1)) j 2)) j 3)) k 4 ((up (up (up (s_X1_copyFrom σ (k + 1) (j + 1)) k 1 ((s_X1_copyFrom σ (k + 1) (j + 1)) j 1)) k 2 ((up (s_X1_copyFrom σ (k + 1) (j + 1)) k 1 ((s_X1_copyFrom σ (k + 1) (j + 1)) j 1)) j 2)) k 3 ((up (up (s_X1_copyFrom σ (k + 1) (j + 1)) k 1 ((s_X1_copyFrom σ (k + 1) (j + 1)) j 1)) k 2 ((up (s_X1_copyFrom σ (k + 1) (j + 1)) k 1 ((s_X1_copyFrom σ (k + 1) (j + 1)) j 1)) j 2)) j 3)) j 4)) j 5)) k 6 ((up (up (up (up (up (s_X1_copyFrom σ (k + 1) (j + 1)) k 1 ((s_X1_copyFrom σ (k + 1) (j + 1)) j 1)) k 2 ((up (s_X1_copyFrom σ (k + 1) (j + 1)) k 1 ((s_X1_copyFrom σ (k + 1) (j + 1)) j 1)) j 2)) k 3 ((up (up (s_X1_copyFrom σ (k + 1) (j + 1)) k 1 ((s_X1_copyFrom σ (k + 1) (j + 1)) j 1)) k 2 ((up (s_X1_copyFrom σ (k + 1) (j + 1)) k 1 ((s_X1_copyFrom σ (k + 1) (j + 1)) j 1)) j 2)) j 3)) k 4 ((up (up (up (s_X1_copyFrom σ (k + 1) (j + 1)) k 1 ((s_X1_copyFrom σ (k + 1) (j + 1)) j 1)) k 2 ((up (s_X1_copyFrom σ (k + 1) (j + 1)) k 1 ((s_X1_copyFrom σ (k + 1) (j + 1)) j 1)) j 2)) k 3 ((up (up (s_X1_copyFrom σ (k + 1) (j + 1)) k 1 ((s_X1_copyFrom σ (k + 1) (j + 1)) j 1)) k 2 ((up (s_X1_copyFrom σ (k + 1) (j + 1)) k 1 ((s_X1_copyFrom σ (k + 1) (j + 1)) j 1)) j 2)) j 3)) j 4)) k 5 ((up (up (up (up (s_X1_copyFrom σ (k + 1) (j + 1)) k 1 ((s_X1_copyFrom σ (k + 1) (j + 1)) j 1)) k 2 ((up (s_X1_copyFrom σ (k + 1) (j + 1)) k 1 ((s_X1_copyFrom σ (k + 1) (j + 1)) j 1)) j 2)) k 3 ((up (up (s_X1_copyFrom σ (k + 1) (j + 1)) k 1 ((s_X1_copyFrom σ (k + 1) (j + 1)) j 1)) k 2 ((up (s_X1_copyFrom σ (k + 1) (j + 1)) k 1 ((s_X1_copyFrom σ (k + 1) (j + 1)) j 1)) j 2)) j 3)) k 4 ((up (up (up (s_X1_copyFrom σ (k + 1) (j + 1)) k 1 ((s_X1_copyFrom σ (k + 1) (j + 1)) j 1)) k 2 ((up (s_X1_copyFrom σ (k + 1) (j + 1)) k 1 ((s_X1_copyFrom σ (k + 1) (j + 1)) j 1)) j 2)) k 3 ((up (up (s_X1_copyFrom σ (k + 1) (j + 1)) k 1 ((s_X1_copyFrom σ (k + 1) (j + 1)) j 1)) k 2 ((up (s_X1_copyFrom σ (k + 1) (j + 1)) k 1 ((s_X1_copyFrom σ (k + 1) (j + 1)) j 1)) j 2)) j 3)) j 4)) j 5)) j 6)) k 7 ((up (up (up (up (up (up (s_X1_copyFrom σ (k + 1) (j + 1)) k 1 ((s_X1_copyFrom σ (k + 1) (j + 1)) j 1)) k 2 ((up (s_X1_copyFrom σ (k + 1) (j + 1)) k 1 ((s_X1_copyFrom σ (k + 1) (j + 1)) j 1)) j 2)) k 3 ((up (up (s_X1_copyFrom σ (k + 1) (j + 1)) k 1 ((s_X1_copyFrom σ (k + 1) (j + 1)) j 1)) k 2 ((up (s_X1_copyFrom σ (k + 1) (j + 1)) k 1 ((s_X1_copyFrom σ (k + 1) (j + 1)) j 1)) j 2)) j 3)) k 4 ((up (up (up (s_X1_copyFrom σ (k + 1) (j + 1)) k 1 ((s_X1_copyFrom σ (k + 1) (j + 1)) j 1)) k 2 ((up (s_X1_copyFrom σ (k + 1) (j + 1)) k 1 ((s_X1_copyFrom σ (k + 1) (j + 1)) j 1)) j 2)) k 3 ((up (up (s_X1_copyFrom σ (k + 1) (j + 1)) k 1 ((s_X1_copyFrom σ (k + 1) (j + 1)) j 1)) k 2 ((up (s_X1_copyFrom σ (k + 1) (j + 1)) k 1 ((s_X1_copyFrom σ (k + 1) (j + 1)) j 1)) j 2)) j 3)) j 4)) k 5 ((up (up (up (up (s_X1_copyFrom σ (k + 1) (j + 1)) k 1 ((s_X1_copyFrom σ (k + 1) (j + 1)) j 1)) k 2 ((up (s_X1_copyFrom σ (k + 1) (j + 1)) k 1 ((s_X1_copyFrom σ (k + 1) (j + 1)) j 1)) j 2)) k 3 ((up (up (s_X1_copyFrom σ (k + 1) (j + 1)) k 1 ((s_X1_copyFrom σ (k + 1) (j + 1)) j 1)) k 2 ((up (s_X1_copyFrom σ (k + 1) (j + 1)) k 1 ((s_X1_copyFrom σ (k + 1) (j + 1)) j 1)) j 2)) j 3)) k 4 ((up (up (up (s_X1_copyFrom σ (k + 1) (j + 1)) k 1 ((s_X1_copyFrom σ (k + 1) (j + 1)) j 1)) k 2 ((up (s_X1_copyFrom σ (k + 1) (j + 1)) k 1 ((s_X1_copyFrom σ (k + 1) (j + 1)) j 1)) j 2)) k 3 ((up (up (s_X1_copyFrom σ (k + 1) (j + 1)) k 1 ((s_X1_copyFrom σ (k + 1) (j + 1)) j 1)) k 2 ((up (s_X1_copyFrom σ (k + 1) (j + 1)) k 1 ((s_X1_copyFrom σ (k + 1) (j + 1)) j 1)) j 2)) j 3)) j 4)) j 5)) k 6 ((up (up (up (up (up (s_X1_copyFrom σ (k + 1) (j + 1)) k 1 ((s_X1_copyFrom σ (k + 1) (j + 1)) j 1)) k 2 ((up (s_X1_copyFrom σ (k + 1) (j + 1)) k 1 ((s_X1_copyFrom σ (k + 1) (j + 1)) j 1)) j 2)) k 3 ((up (up (s_X1_copyFrom σ (k + 1) (j + 1)) k 1 ((s_X1_copyFrom σ (k + 1) (j + 1)) j 1)) k 2 ((up (s_X1_copyFrom σ (k + 1) (j + 1)) k 1 ((s_X1_copyFrom σ (k + 1) (j + 1)) j 1)) j 2)) j 3)) k 4 ((up (up (up (s_X1_copyFrom σ (k + 1) (j + 1)) k 1 ((s_X1_copyFrom σ (k + 1) (j + 1)) j 1)) k 2 ((up (s_X1_copyFrom σ (k + 1) (j + 1)) k 1 ((s_X1_copyFrom σ (k + 1) (j + 1)) j 1)) j 2)) k 3 ((up (up (s_X1_copyFrom σ (k + 1) (j + 1)) k 1 ((s_X1_copyFrom σ (k + 1) (j + 1)) j 1)) k 2 ((up (s_X1_copyFrom σ (k + 1) (j + 1)) k 1 ((s_X1_copyFrom σ (k + 1) (j + 1)) j 1)) j 2)) j 3)) j 4)) k 5 ((up (up (up (up (s_X1_copyFrom σ (k + 1) (j + 1)) k 1 ((s_X1_copyFrom σ (k + 1) (j + 1)) j 1)) k 2 ((up (s_X1_copyFrom σ (k + 1) (j + 1)) k 1 ((s_X1_copyFrom σ (k + 1) (j + 1)) j 1)) j 2)) k 3 ((up (up (s_X1_copyFrom σ (k + 1) (j + 1)) k 1 ((s_X1_copyFrom σ (k + 1) (j + 1)) j 1)) k 2 ((up (s_X1_copyFrom σ (k + 1) (j + 1)) k 1 ((s_X1_copyFrom σ (k + 1) (j + 1)) j 1)) j 2)) j 3)) k 4 ((up (up (up (s_X1_copyFrom σ (k + 1) (j + 1)) k 1 ((s_X1_copyFrom σ (k + 1) (j + 1)) j 1)) k 2 ((up (s_X1_copyFrom σ (k + 1) (j + 1)) k 1 ((s_X1_copyFrom σ (k + 1) (j + 1)) j 1)) j 2)) k 3 ((up (up (s_X1_copyFrom σ (k + 1) (j + 1)) k 1 ((s_X1_copyFrom σ (k + 1) (j + 1)) j 1)) k 2 ((up (s_X1_copyFrom σ (k + 1) (j + 1)) k 1 ((s_X1_copyFrom σ (k + 1) (j + 1)) j 1)) j 2)) j 3)) j 4)) j 5)) j 6)) j 7)) j 8)) k 9 ((up (up (up (up (up (up (up (up (s_X1_copyFrom σ (k + 1) (j + 1)) k 1 ((s_X1_copyFrom σ (k + 1) (j + 1)) j 1)) k 2 ((up (s_X1_copyFrom σ (k + 1) (j + 1)) k 1 ((s_X1_copyFrom σ (k + 1) (j + 1)) j 1)) j 2)) k 3 ((up (up (s_X1_copyFrom σ (k + 1) (j + 1)) k 1 ((s_X1_copyFrom σ (k + 1) (j + 1)) j 1)) k 2 ((up (s_X1_copyFrom σ (k + 1) (j + 1)) k 1 ((s_X1_copyFrom σ (k + 1) (j + 1)) j 1)) j 2)) j 3)) k 4 ((up (up (up (s_X1_copyFrom σ (k + 1) (j + 1)) k 1 ((s_X1_copyFrom σ (k + 1) (j + 1)) j 1)) k 2 ((up (s_X1_copyFrom σ (k + 1) (j + 1)) k 1 ((s_X1_copyFrom σ (k + 1) (j + 1)) j 1)) j 2)) k 3 ((up (up (s_X1_copyFrom σ (k + 1) (j + 1)) k 1 ((s_X1_copyFrom σ (k + 1) (j + 1)) j 1)) k 2 ((up (s_X1_copyFrom σ (k + 1) (j + 1)) k 1 ((s_X1_copyFrom σ (k + 1) (j + 1)) j 1)) j 2)) j 3)) j 4)) k 5 ((up (up (up (up (s_X1_copyFrom σ (k + 1) (j + 1)) k 1 ((s_X1_copyFrom σ (k + 1) (j + 1)) j 1)) k 2 ((up (s_X1_copyFrom σ (k + 1) (j + 1)) k 1 ((s_X1_copyFrom σ (k + 1) (j + 1)) j 1)) j 2)) k 3 ((up (up (s_X1_copyFrom σ (k + 1) (j + 1)) k 1 ((s_X1_copyFrom σ (k + 1) (j + 1)) j 1)) k 2 ((up (s_X1_copyFrom σ (k + 1) (j + 1)) k 1 ((s_X1_copyFrom σ (k + 1) (j + 1)) j 1)) j 2)) j 3)) k 4 ((up (up (up (s_X1_copyFrom σ (k + 1) (j + 1)) k 1 ((s_X1_copyFrom σ (k + 1) (j + 1)) j 1)) k 2 ((up (s_X1_copyFrom σ (k + 1) (j + 1)) k 1 ((s_X1_copyFrom σ (k + 1) (j + 1)) j 1)) j 2)) k 3 ((up (up (s_X1_copyFrom σ (k + 1) (j + 1)) k 1 ((s_X1_copyFrom σ (k + 1) (j + 1)) j 1)) k 2 ((up (s_X1_copyFrom σ (k + 1) (j + 1)) k 1 ((s_X1_copyFrom σ (k + 1) (j + 1)) j 1)) j 2)) j 3)) j 4)) j 5)) k 6 ((up (up (up (up (up (s_X1_copyFrom σ (k + 1) (j + 1)) k 1 ((s_X1_copyFrom σ (k + 1) (j + 1)) j 1)) k 2 ((up (s_X1_copyFrom σ (k + 1) (j + 1)) k 1 ((s_X1_copyFrom σ (k + 1) (j + 1)) j 1)) j 2)) k 3 ((up (up (s_X1_copyFrom σ (k + 1) (j + 1)) k 1 ((s_X1_copyFrom σ (k + 1) (j + 1)) j 1)) k 2 ((up (s_X1_copyFrom σ (k + 1) (j + 1)) k 1 ((s_X1_copyFrom σ (k + 1) (j + 1)) j 1)) j 2)) j 3)) k 4 ((up (up (up (s_X1_copyFrom σ (k + 1) (j + 1)) k 1 ((s_X1_copyFrom σ (k + 1) (j + 1)) j 1)) k 2 ((up (s_X1_copyFrom σ (k + 1) (j + 1)) k 1 ((s_X1_copyFrom σ (k + 1) (j + 1)) j 1)) j 2)) k 3 ((up (up (s_X1_copyFrom σ (k + 1) (j + 1)) k 1 ((s_X1_copyFrom σ (k + 1) (j + 1)) j 1)) k 2 ((up (s_X1_copyFrom σ (k + 1) (j + 1)) k 1 ((s_X1_copyFrom σ (k + 1) (j + 1)) j 1)) j 2)) j 3)) j 4)) k 5 ((up (up (up (up (s_X1_copyFrom σ (k + 1) (j + 1)) k 1 ((s_X1_copyFrom σ (k + 1) (j + 1)) j 1)) k 2 ((up (s_X1_copyFrom σ (k + 1) (j + 1)) k 1 ((s_X1_copyFrom σ (k + 1) (j + 1)) j 1)) j 2)) k 3 ((up (up (s_X1_copyFrom σ (k + 1) (j + 1)) k 1 ((s_X1_copyFrom σ (k + 1) (j + 1)) j 1)) k 2 ((up (s_X1_copyFrom σ (k + 1) (j + 1)) k 1 ((s_X1_copyFrom σ (k + 1) (j + 1)) j 1)) j 2)) j 3)) k 4 ((up (up (up (s_X1_copyFrom σ (k + 1) (j + 1)) k 1 ((s_X1_copyFrom σ (k + 1) (j + 1)) j 1)) k 2 ((up (s_X1_copyFrom σ (k + 1) (j + 1)) k 1 ((s_X1_copyFrom σ (k + 1) (j + 1)) j 1)) j 2)) k 3 ((up (up (s_X1_copyFrom σ (k + 1) (j + 1)) k 1 ((s_X1_copyFrom σ (k + 1) (j + 1)) j 1)) k 2 ((up (s_X1_copyFrom σ (k + 1) (j + 1)) k 1 ((s_X1_copyFrom σ (k + 1) (j + 1)) j 1)) j 2)) j 3)) j 4)) j 5)) j 6)) k 7 ((up (up (up (up (up (up (s_X1_copyFrom σ (k + 1) (j + 1)) k 1 ((s_X1_copyFrom σ (k + 1) (j + 1)) j 1)) k 2 ((up (s_X1_copyFrom σ (k + 1) (j + 1)) k 1 ((s_X1_copyFrom σ (k + 1) (j + 1)) j 1)) j 2)) k 3 ((up (up (s_X1_copyFrom σ (k + 1) (j + 1)) k 1 ((s_X1_copyFrom σ (k + 1) (j + 1)) j 1)) k 2 ((up (s_X1_copyFrom σ (k + 1) (j + 1)) k 1 ((s_X1_copyFrom σ (k + 1) (j + 1)) j 1)) j 2)) j 3)) k 4 ((up (up (up (s_X1_copyFrom σ (k + 1) (j + 1)) k 1 ((s_X1_copyFrom σ (k + 1) (j + 1)) j 1)) k 2 ((up (s_X1_copyFrom σ (k + 1) (j + 1)) k 1 ((s_X1_copyFrom σ (k + 1) (j + 1)) j 1)) j 2)) k 3 ((up (up (s_X1_copyFrom σ (k + 1) (j + 1)) k 1 ((s_X1_copyFrom σ (k + 1) (j + 1)) j 1)) k 2 ((up (s_X1_copyFrom σ (k + 1) (j + 1)) k 1 ((s_X1_copyFrom σ (k + 1) (j + 1)) j 1)) j 2)) j 3)) j 4)) k 5 ((up (up (up (up (s_X1_copyFrom σ (k + 1) (j + 1)) k 1 ((s_X1_copyFrom σ (k + 1) (j + 1)) j 1)) k 2 ((up (s_X1_copyFrom σ (k + 1) (j + 1)) k 1 ((s_X1_copyFrom σ (k + 1) (j + 1)) j 1)) j 2)) k 3 ((up (up (s_X1_copyFrom σ (k + 1) (j + 1)) k 1 ((s_X1_copyFrom σ (k + 1) (j + 1)) j 1)) k 2 ((up (s_X1_copyFrom σ (k + 1) (j + 1)) k 1 ((s_X1_copyFrom σ (k + 1) (j + 1)) j 1)) j 2)) j 3)) k 4 ((up (up (up (s_X1_copyFrom σ (k + 1) (j + 1)) k 1 ((s_X1_copyFrom σ (k + 1) (j + 1)) j 1)) k 2 ((up (s_X1_copyFrom σ (k + 1) (j + 1)) k 1 ((s_X1_copyFrom σ (k + 1) (j + 1)) j 1)) j 2)) k 3 ((up (up (s_X1_copyFrom σ (k + 1) (j + 1)) k 1 ((s_X1_copyFrom σ (k + 1) (j + 1)) j 1)) k 2 ((up (s_X1_copyFrom σ (k + 1) (j + 1)) k 1 ((s_X1_copyFrom σ (k + 1) (j + 1)) j 1)) j 2)) j 3)) j 4)) j 5)) k 6 ((up (up (up (up (up (s_X1_copyFrom σ (k + 1) (j + 1)) k 1 ((s_X1_copyFrom σ (k + 1) (j + 1)) j 1)) k 2 ((up (s_X1_copyFrom σ (k + 1) (j + 1)) k 1 ((s_X1_copyFrom σ (k + 1) (j + 1)) j 1)) j 2)) k 3 ((up (up (s_X1_copyFrom σ (k + 1) (j + 1)) k 1 ((s_X1_copyFrom σ (k + 1) (j + 1)) j 1)) k 2 ((up (s_X1_copyFrom σ (k + 1) (j + 1)) k 1 ((s_X1_copyFrom σ (k + 1) (j + 1)) j 1)) j 2)) j 3)) k 4 ((up (up (up (s_X1_copyFrom σ (k + 1) (j + 1)) k 1 ((s_X1_copyFrom σ (k + 1) (j + 1)) j 1)) k 2 ((up (s_X1_copyFrom σ (k + 1) (j + 1)) k 1 ((s_X1_copyFrom σ (k + 1) (j + 1)) j 1)) j 2)) k 3 ((up (up (s_X1_copyFrom σ (k + 1) (j + 1)) k 1 ((s_X1_copyFrom σ (k + 1) (j + 1)) j 1)) k 2 ((up (s_X1_copyFrom σ (k + 1) (j + 1)) k 1 ((s_X1_copyFrom σ (k + 1) (j + 1)) j 1)) j 2)) j 3)) j 4)) k 5 ((up (up (up (up (s_X1_copyFrom σ (k + 1) (j + 1)) k 1 ((s_X1_copyFrom σ (k + 1) (j + 1)) j 1)) k 2 ((up (s_X1_copyFrom σ (k + 1) (j + 1)) k 1 ((s_X1_copyFrom σ (k + 1) (j + 1)) j 1)) j 2)) k 3 ((up (up (s_X1_copyFrom σ (k + 1) (j + 1)) k 1 ((s_X1_copyFrom σ (k + 1) (j + 1)) j 1)) k 2 ((up (s_X1_copyFrom σ (k + 1) (j + 1)) k 1 ((s_X1_copyFrom σ (k + 1) (j + 1)) j 1)) j 2)) j 3)) k 4 ((up (up (up (s_X1_copyFrom σ (k + 1) (j + 1)) k 1 ((s_X1_copyFrom σ (k + 1) (j + 1)) j 1)) k 2 ((up (s_X1_copyFrom σ (k + 1) (j + 1)) k 1 ((s_X1_copyFrom σ (k + 1) (j + 1)) j 1)) j 2)) k 3 ((up (up (s_X1_copyFrom σ (k + 1) (j + 1)) k 1 ((s_X1_copyFrom σ (k + 1) (j + 1)) j 1)) k 2 ((up (s_X1_copyFrom σ (k + 1) (j + 1)) k 1 ((s_X1_copyFrom σ (k + 1) (j + 1)) j 1)) j 2)) j 3)) j 4)) j 5)) j 6)) j 7)) k 8 ((up (up (up (up (up (up (up (s_X1_copyFrom σ (k + 1) (j + 1)) k 1 ((s_X1_copyFrom σ (k + 1) (j + 1)) j 1)) k 2 ((up (s_X1_copyFrom σ (k + 1) (j + 1)) k 1 ((s_X1_copyFrom σ (k + 1) (j + 1)) j 1)) j 2)) k 3 ((up (up (s_X1_copyFrom σ (k + 1) (j + 1)) k 1 ((s_X1_copyFrom σ (k + 1) (j + 1)) j 1)) k 2 ((up (s_X1_copyFrom σ (k + 1) (j + 1)) k 1 ((s_X1_copyFrom σ (k + 1) (j + 1)) j 1)) j 2)) j 3)) k 4 ((up (up (up (s_X1_copyFrom σ (k + 1) (j + 1)) k 1 ((s_X1_copyFrom σ (k + 1) (j + 1)) j 1)) k 2 ((up (s_X1_copyFrom σ (k + 1) (j + 1)) k 1 ((s_X1_copyFrom σ (k + 1) (j + 1)) j 1)) j 2)) k 3 ((up (up (s_X1_copyFrom σ (k + 1) (j + 1)) k 1 ((s_X1_copyFrom σ (k + 1) (j + 1)) j 1)) k 2 ((up (s_X1_copyFrom σ (k + 1) (j + 1)) k 1 ((s_X1_copyFrom σ (k + 1) (j + 1)) j 1)) j 2)) j 3)) j 4)) k 5 ((up (up (up (up (s_X1_copyFrom σ (k + 1) (j + 1)) k 1 ((s_X1_copyFrom σ (k + 1) (j + 1)) j 1)) k 2 ((up (s_X1_copyFrom σ (k + 1) (j + 1)) k 1 ((s_X1_copyFrom σ (k + 1) (j + 1)) j 1)) j 2)) k 3 ((up (up (s_X1_copyFrom σ (k + 1) (j + 1)) k 1 ((s_X1_copyFrom σ (k + 1) (j + 1)) j 1)) k 2 ((up (s_X1_copyFrom σ (k + 1) (j + 1)) k 1 ((s_X1_copyFrom σ (k + 1) (j + 1)) j 1)) j 2)) j 3)) k 4 ((up (up (up (s_X1_copyFrom σ (k + 1) (j + 1)) k 1 ((s_X1_copyFrom σ (k + 1) (j + 1)) j 1)) k 2 ((up (s_X1_copyFrom σ (k + 1) (j + 1)) k 1 ((s_X1_copyFrom σ (k + 1) (j + 1)) j 1)) j 2)) k 3 ((up (up (s_X1_copyFrom σ (k + 1) (j + 1)) k 1 ((s_X1_copyFrom σ (k + 1) (j + 1)) j 1)) k 2 ((up (s_X1_copyFrom σ (k + 1) (j + 1)) k 1 ((s_X1_copyFrom σ (k + 1) (j + 1)) j 1)) j 2)) j 3)) j 4)) j 5)) k 6 ((up (up (up (up (up (s_X1_copyFrom σ (k + 1) (j + 1)) k 1 ((s_X1_copyFrom σ (k + 1) (j + 1)) j 1)) k 2 ((up (s_X1_copyFrom σ (k + 1) (j + 1)) k 1 ((s_X1_copyFrom σ (k + 1) (j + 1)) j 1)) j 2)) k 3 ((up (up (s_X1_copyFrom σ (k + 1) (j + 1)) k 1 ((s_X1_copyFrom σ (k + 1) (j + 1)) j 1)) k 2 ((up (s_X1_copyFrom σ (k + 1) (j + 1)) k 1 ((s_X1_copyFrom σ (k + 1) (j + 1)) j 1)) j 2)) j 3)) k 4 ((up (up (up (s_X1_copyFrom σ (k + 1) (j + 1)) k 1 ((s_X1_copyFrom σ (k + 1) (j + 1)) j 1)) k 2 ((up (s_X1_copyFrom σ (k + 1) (j + 1)) k 1 ((s_X1_copyFrom σ (k + 1) (j + 1)) j 1)) j 2)) k 3 ((up (up (s_X1_copyFrom σ (k + 1) (j + 1)) k 1 ((s_X1_copyFrom σ (k + 1) (j + 1)) j 1)) k 2 ((up (s_X1_copyFrom σ (k + 1) (j + 1)) k 1 ((s_X1_copyFrom σ (k + 1) (j + 1)) j 1)) j 2)) j 3)) j 4)) k 5 ((up (up (up (up (s_X1_copyFrom σ (k + 1) (j + 1)) k 1 ((s_X1_copyFrom σ (k + 1) (j + 1)) j 1)) k 2 ((up (s_X1_copyFrom σ (k + 1) (j + 1)) k 1 ((s_X1_copyFrom σ (k + 1) (j + 1)) j 1)) j 2)) k 3 ((up (up (s_X1_copyFrom σ (k + 1) (j + 1)) k 1 ((s_X1_copyFrom σ (k + 1) (j + 1)) j 1)) k 2 ((up (s_X1_copyFrom σ (k + 1) (j + 1)) k 1 ((s_X1_copyFrom σ (k + 1) (j + 1)) j 1)) j 2)) j 3)) k 4 ((up (up (up (s_X1_copyFrom σ (k + 1) (j + 1)) k 1 ((s_X1_copyFrom σ (k + 1) (j + 1)) j 1)) k 2 ((up (s_X1_copyFrom σ (k + 1) (j + 1)) k 1 ((s_X1_copyFrom σ (k + 1) (j + 1)) j 1)) j 2)) k 3 ((up (up (s_X1_copyFrom σ (k + 1) (j + 1)) k 1 ((s_X1_copyFrom σ (k + 1) (j + 1)) j 1)) k 2 ((up (s_X1_copyFrom σ (k + 1) (j + 1)) k 1 ((s_X1_copyFrom σ (k + 1) (j + 1)) j 1)) j 2)) j 3)) j 4)) j 5)) j 6)) k 7 ((up (up (up (up (up (up (s_X1_copyFrom σ (k + 1) (j + 1)) k 1 ((s_X1_copyFrom σ (k + 1) (j + 1)) j 1)) k 2 ((up (s_X1_copyFrom σ (k + 1) (j + 1)) k 1 ((s_X1_copyFrom σ (k + 1) (j + 1)) j 1)) j 2)) k 3 ((up (up (s_X1_copyFrom σ (k + 1) (j + 1)) k 1 ((s_X1_copyFrom σ (k + 1) (j + 1)) j 1)) k 2 ((up (s_X1_copyFrom σ (k + 1) (j + 1)) k 1 ((s_X1_copyFrom σ (k + 1) (j + 1)) j 1)) j 2)) j 3)) k 4 ((up (up (up (s_X1_copyFrom σ (k + 1) (j + 1)) k 1 ((s_X1_copyFrom σ (k + 1) (j + 1)) j 1)) k 2 ((up (s_X1_copyFrom σ (k + 1) (j + 1)) k 1 ((s_X1_copyFrom σ (k + 1) (j + 1)) j 1)) j 2)) k 3 ((up (up (s_X1_copyFrom σ (k + 1) (j + 1)) k 1 ((s_X1_copyFrom σ (k + 1) (j + 1)) j 1)) k 2 ((up (s_X1_copyFrom σ (k + 1) (j + 1)) k 1 ((s_X1_copyFrom σ (k + 1) (j + 1)) j 1)) j 2)) j 3)) j 4)) k 5 ((up (up (up (up (s_X1_copyFrom σ (k + 1) (j + 1)) k 1 ((s_X1_copyFrom σ (k + 1) (j + 1)) j 1)) k 2 ((up (s_X1_copyFrom σ (k + 1) (j + 1)) k 1 ((s_X1_copyFrom σ (k + 1) (j + 1)) j 1)) j 2)) k 3 ((up (up (s_X1_copyFrom σ (k + 1) (j + 1)) k 1 ((s_X1_copyFrom σ (k + 1) (j + 1)) j 1)) k 2 ((up (s_X1_copyFrom σ (k + 1) (j + 1)) k 1 ((s_X1_copyFrom σ (k + 1) (j + 1)) j 1)) j 2)) j 3)) k 4 ((up (up (up (s_X1_copyFrom σ (k + 1) (j + 1)) k 1 ((s_X1_copyFrom σ (k + 1) (j + 1)) j 1)) k 2 ((up (s_X1_copyFrom σ (k + 1) (j + 1)) k 1 ((s_X1_copyFrom σ (k + 1) (j + 1)) j 1)) j 2)) k 3 ((up (up (s_X1_copyFrom σ (k + 1) (j + 1)) k 1 ((s_X1_copyFrom σ (k + 1) (j + 1)) j 1)) k 2 ((up (s_X1_copyFrom σ (k + 1) (j + 1)) k 1 ((s_X1_copyFrom σ (k + 1) (j + 1)) j 1)) j 2)) j 3)) j 4)) j 5)) k 6 ((up (up (up (up (up (s_X1_copyFrom σ (k + 1) (j + 1)) k 1 ((s_X1_copyFrom σ (k + 1) (j + 1)) j 1)) k 2 ((up (s_X1_copyFrom σ (k + 1) (j + 1)) k 1 ((s_X1_copyFrom σ (k + 1) (j + 1)) j 1)) j 2)) k 3 ((up (up (s_X1_copyFrom σ (k + 1) (j + 1)) k 1 ((s_X1_copyFrom σ (k + 1) (j + 1)) j 1)) k 2 ((up (s_X1_copyFrom σ (k + 1) (j + 1)) k 1 ((s_X1_copyFrom σ (k + 1) (j + 1)) j 1)) j 2)) j 3)) k 4 ((up (up (up (s_X1_copyFrom σ (k + 1) (j + 1)) k 1 ((s_X1_copyFrom σ (k + 1) (j + 1)) j 1)) k 2 ((up (s_X1_copyFrom σ (k + 1) (j + 1)) k 1 ((s_X1_copyFrom σ (k + 1) (j + 1)) j 1)) j 2)) k 3 ((up (up (s_X1_copyFrom σ (k + 1) (j + 1)) k 1 ((s_X1_copyFrom σ (k + 1) (j + 1)) j 1)) k 2 ((up (s_X1_copyFrom σ (k + 1) (j + 1)) k 1 ((s_X1_copyFrom σ (k + 1) (j + 1)) j 1)) j 2)) j 3)) j 4)) k 5 ((up (up (up (up (s_X1_copyFrom σ (k + 1) (j + 1)) k 1 ((s_X1_copyFrom σ (k + 1) (j + 1)) j 1)) k 2 ((up (s_X1_copyFrom σ (k + 1) (j + 1)) k 1 ((s_X1_copyFrom σ (k + 1) (j + 1)) j 1)) j 2)) k 3 ((up (up (s_X1_copyFrom σ (k + 1) (j + 1)) k 1 ((s_X1_copyFrom σ (k + 1) (j + 1)) j 1)) k 2 ((up (s_X1_copyFrom σ (k + 1) (j + 1)) k 1 ((s_X1_copyFrom σ (k + 1) (j + 1)) j 1)) j 2)) j 3)) k 4 ((up (up (up (s_X1_copyFrom σ (k + 1) (j + 1)) k 1 ((s_X1_copyFrom σ (k + 1) (j + 1)) j 1)) k 2 ((up (s_X1_copyFrom σ (k + 1) (j + 1)) k 1 ((s_X1_copyFrom σ (k + 1) (j + 1)) j 1)) j 2)) k 3 ((up (up (s_X1_copyFrom σ (k + 1) (j + 1)) k 1 ((s_X1_copyFrom σ (k + 1) (j + 1)) j 1)) k 2 ((up (s_X1_copyFrom σ (k + 1) (j + 1)) k 1 ((s_X1_copyFrom σ (k + 1) (j + 1)) j 1)) j 2)) j 3)) j 4)) j 5)) j 6)) j 7)) j 8)) j 9)) k 10 ((up (up (up (up (up (up (up (up (up (s_X1_copyFrom σ (k + 1) (j + 1)) k 1 ((s_X1_copyFrom σ (k + 1) (j + 1)) j 1)) k 2 ((up (s_X1_copyFrom σ (k + 1) (j + 1)) k 1 ((s_X1_copyFrom σ (k + 1) (j + 1)) j 1)) j 2)) k 3 ((up (up (s_X1_copyFrom σ (k + 1) (j + 1)) k 1 ((s_X1_copyFrom σ (k + 1) (j + 1)) j 1)) k 2 ((up (s_X1_copyFrom σ (k + 1) (j + 1)) k 1 ((s_X1_copyFrom σ (k + 1) (j + 1)) j 1)) j 2)) j 3)) k 4 ((up (up (up (s_X1_copyFrom σ (k + 1) (j + 1)) k 1 ((s_X1_copyFrom σ (k + 1) (j + 1)) j 1)) k 2 ((up (s_X1_copyFrom σ (k + 1) (j + 1)) k 1 ((s_X1_copyFrom σ (k + 1) (j + 1)) j 1)) j 2)) k 3 ((up (up (s_X1_copyFrom σ (k + 1) (j + 1)) k 1 ((s_X1_copyFrom σ (k + 1) (j + 1)) j 1)) k 2 ((up (s_X1_copyFrom σ (k + 1) (j + 1)) k 1 ((s_X1_copyFrom σ (k + 1) (j + 1)) j 1)) j 2)) j 3)) j 4)) k 5 ((up (up (up (up (s_X1_copyFrom σ (k + 1) (j + 1)) k 1 ((s_X1_copyFrom σ (k + 1) (j + 1)) j 1)) k 2 ((up (s_X1_copyFrom σ (k + 1) (j + 1)) k 1 ((s_X1_copyFrom σ (k + 1) (j + 1)) j 1)) j 2)) k 3 ((up (up (s_X1_copyFrom σ (k + 1) (j + 1)) k 1 ((s_X1_copyFrom σ (k + 1) (j + 1)) j 1)) k 2 ((up (s_X1_copyFrom σ (k + 1) (j + 1)) k 1 ((s_X1_copyFrom σ (k + 1) (j + 1)) j 1)) j 2)) j 3)) k 4 ((up (up (up (s_X1_copyFrom σ (k + 1) (j + 1)) k 1 ((s_X1_copyFrom σ (k + 1) (j + 1)) j 1)) k 2 ((up (s_X1_copyFrom σ (k + 1) (j + 1)) k 1 ((s_X1_copyFrom σ (k + 1) (j + 1)) j 1)) j 2)) k 3 ((up (up (s_X1_copyFrom σ (k + 1) (j + 1)) k 1 ((s_X1_copyFrom σ (k + 1) (j + 1)) j 1)) k 2 ((up (s_X1_copyFrom σ (k + 1) (j + 1)) k 1 ((s_X1_copyFrom σ (k + 1) (j + 1)) j 1)) j 2)) j 3)) j 4)) j 5)) k 6 ((up (up (up (up (up (s_X1_copyFrom σ (k + 1) (j + 1)) k 1 ((s_X1_copyFrom σ (k + 1) (j + 1)) j 1)) k 2 ((up (s_X1_copyFrom σ (k + 1) (j + 1)) k 1 ((s_X1_copyFrom σ (k + 1) (j + 1)) j 1)) j 2)) k 3 ((up (up (s_X1_copyFrom σ (k + 1) (j + 1)) k 1 ((s_X1_copyFrom σ (k + 1) (j + 1)) j 1)) k 2 ((up (s_X1_copyFrom σ (k + 1) (j + 1)) k 1 ((s_X1_copyFrom σ (k + 1) (j + 1)) j 1)) j 2)) j 3)) k 4 ((up (up (up (s_X1_copyFrom σ (k + 1) (j + 1)) k 1 ((s_X1_copyFrom σ (k + 1) (j + 1)) j 1)) k 2 ((up (s_X1_copyFrom σ (k + 1) (j + 1)) k 1 ((s_X1_copyFrom σ (k + 1) (j + 1)) j 1)) j 2)) k 3 ((up (up (s_X1_copyFrom σ (k + 1) (j + 1)) k 1 ((s_X1_copyFrom σ (k + 1) (j + 1)) j 1)) k 2 ((up (s_X1_copyFrom σ (k + 1) (j + 1)) k 1 ((s_X1_copyFrom σ (k + 1) (j + 1)) j 1)) j 2)) j 3)) j 4)) k 5 ((up (up (up (up (s_X1_copyFrom σ (k + 1) (j + 1)) k 1 ((s_X1_copyFrom σ (k + 1) (j + 1)) j 1)) k 2 ((up (s_X1_copyFrom σ (k + 1) (j + 1)) k 1 ((s_X1_copyFrom σ (k + 1) (j + 1)) j 1)) j 2)) k 3 ((up (up (s_X1_copyFrom σ (k + 1) (j + 1)) k 1 ((s_X1_copyFrom σ (k + 1) (j + 1)) j 1)) k 2 ((up (s_X1_copyFrom σ (k + 1) (j + 1)) k 1 ((s_X1_copyFrom σ (k + 1) (j + 1)) j 1)) j 2)) j 3)) k 4 ((up (up (up (s_X1_copyFrom σ (k + 1) (j + 1)) k 1 ((s_X1_copyFrom σ (k + 1) (j + 1)) j 1)) k 2 ((up (s_X1_copyFrom σ (k + 1) (j + 1)) k 1 ((s_X1_copyFrom σ (k + 1) (j + 1)) j 1)) j 2)) k 3 ((up (up (s_X1_copyFrom σ (k + 1) (j + 1)) k 1 ((s_X1_copyFrom σ (k + 1) (j + 1)) j 1)) k 2 ((up (s_X1_copyFrom σ (k + 1) (j + 1)) k 1 ((s_X1_copyFrom σ (k + 1) (j + 1)) j 1)) j 2)) j 3)) j 4)) j 5)) j 6)) k 7 ((up (up (up (up (up (up (s_X1_copyFrom σ (k + 1) (j + 1)) k 1 ((s_X1_copyFrom σ (k + 1) (j + 1)) j 1)) k 2 ((up (s_X1_copyFrom σ (k + 1) (j + 1)) k 1 ((s_X1_copyFrom σ (k + 1) (j + 1)) j 1)) j 2)) k 3 ((up (up (s_X1_copyFrom σ (k + 1) (j + 1)) k 1 ((s_X1_copyFrom σ (k + 1) (j + 1)) j 1)) k 2 ((up (s_X1_copyFrom σ (k + 1) (j + 1)) k 1 ((s_X1_copyFrom σ (k + 1) (j + 1)) j 1)) j 2)) j 3)) k 4 ((up (up (up (s_X1_copyFrom σ (k + 1) (j + 1)) k 1 ((s_X1_copyFrom σ (k + 1) (j + 1)) j 1)) k 2 ((up (s_X1_copyFrom σ (k + 1) (j + 1)) k 1 ((s_X1_copyFrom σ (k + 1) (j + 1)) j 1)) j 2)) k 3 ((up (up (s_X1_copyFrom σ (k + 1) (j + 1)) k 1 ((s_X1_copyFrom σ (k + 1) (j + 1)) j 1)) k 2 ((up (s_X1_copyFrom σ (k + 1) (j + 1)) k 1 ((s_X1_copyFrom σ (k + 1) (j + 1)) j 1)) j 2)) j 3)) j 4)) k 5 ((up (up (up (up (s_X1_copyFrom σ (k + 1) (j + 1)) k 1 ((s_X1_copyFrom σ (k + 1) (j + 1)) j 1)) k 2 ((up (s_X1_copyFrom σ (k + 1) (j + 1)) k 1 ((s_X1_copyFrom σ (k + 1) (j + 1)) j 1)) j 2)) k 3 ((up (up (s_X1_copyFrom σ (k + 1) (j + 1)) k 1 ((s_X1_copyFrom σ (k + 1) (j + 1)) j 1)) k 2 ((up (s_X1_copyFrom σ (k + 1) (j + 1)) k 1 ((s_X1_copyFrom σ (k + 1) (j + 1)) j 1)) j 2)) j 3)) k 4 ((up (up (up (s_X1_copyFrom σ (k + 1) (j + 1)) k 1 ((s_X1_copyFrom σ (k + 1) (j + 1)) j 1)) k 2 ((up (s_X1_copyFrom σ (k + 1) (j + 1)) k 1 ((s_X1_copyFrom σ (k + 1) (j + 1)) j 1)) j 2)) k 3 ((up (up (s_X1_copyFrom σ (k + 1) (j + 1)) k 1 ((s_X1_copyFrom σ (k + 1) (j + 1)) j 1)) k 2 ((up (s_X1_copyFrom σ (k + 1) (j + 1)) k 1 ((s_X1_copyFrom σ (k + 1) (j + 1)) j 1)) j 2)) j 3)) j 4)) j 5)) k 6 ((up (up (up (up (up (s_X1_copyFrom σ (k + 1) (j + 1)) k 1 ((s_X1_copyFrom σ (k + 1) (j + 1)) j 1)) k 2 ((up (s_X1_copyFrom σ (k + 1) (j + 1)) k 1 ((s_X1_copyFrom σ (k + 1) (j + 1)) j 1)) j 2)) k 3 ((up (up (s_X1_copyFrom σ (k + 1) (j + 1)) k 1 ((s_X1_copyFrom σ (k + 1) (j + 1)) j 1)) k 2 ((up (s_X1_copyFrom σ (k + 1) (j + 1)) k 1 ((s_X1_copyFrom σ (k + 1) (j + 1)) j 1)) j 2)) j 3)) k 4 ((up (up (up (s_X1_copyFrom σ (k + 1) (j + 1)) k 1 ((s_X1_copyFrom σ (k + 1) (j + 1)) j 1)) k 2 ((up (s_X1_copyFrom σ (k + 1) (j + 1)) k 1 ((s_X1_copyFrom σ (k + 1) (j + 1)) j 1)) j 2)) k 3 ((up (up (s_X1_copyFrom σ (k + 1) (j + 1)) k 1 ((s_X1_copyFrom σ (k + 1) (j + 1)) j 1)) k 2 ((up (s_X1_copyFrom σ (k + 1) (j + 1)) k 1 ((s_X1_copyFrom σ (k + 1) (j + 1)) j 1)) j 2)) j 3)) j 4)) k 5 ((up (up (up (up (s_X1_copyFrom σ (k + 1) (j + 1)) k 1 ((s_X1_copyFrom σ (k + 1) (j + 1)) j 1)) k 2 ((up (s_X1_copyFrom σ (k + 1) (j + 1)) k 1 ((s_X1_copyFrom σ (k + 1) (j + 1)) j 1)) j 2)) k 3 ((up (up (s_X1_copyFrom σ (k + 1) (j + 1)) k 1 ((s_X1_copyFrom σ (k + 1) (j + 1)) j 1)) k 2 ((up (s_X1_copyFrom σ (k + 1) (j + 1)) k 1 ((s_X1_copyFrom σ (k + 1) (j + 1)) j 1)) j 2)) j 3)) k 4 ((up (up (up (s_X1_copyFrom σ (k + 1) (j + 1)) k 1 ((s_X1_copyFrom σ (k + 1) (j + 1)) j 1)) k 2 ((up (s_X1_copyFrom σ (k + 1) (j + 1)) k 1 ((s_X1_copyFrom σ (k + 1) (j + 1)) j 1)) j 2)) k 3 ((up (up (s_X1_copyFrom σ (k + 1) (j + 1)) k 1 ((s_X1_copyFrom σ (k + 1) (j + 1)) j 1)) k 2 ((up (s_X1_copyFrom σ (k + 1) (j + 1)) k 1 ((s_X1_copyFrom σ (k + 1) (j + 1)) j 1)) j 2)) j 3)) j 4)) j 5)) j 6)) j 7)) k 8 ((up (up (up (up (up (up (up (s_X1_copyFrom σ (k + 1) (j + 1)) k 1 ((s_X1_copyFrom σ (k + 1) (j + 1)) j 1)) k 2 ((up (s_X1_copyFrom σ (k + 1) (j + 1)) k 1 ((s_X1_copyFrom σ (k + 1) (j + 1)) j 1)) j 2)) k 3 ((up (up (s_X1_copyFrom σ (k + 1) (j + 1)) k 1 ((s_X1_copyFrom σ (k + 1) (j + 1)) j 1)) k 2 ((up (s_X1_copyFrom σ (k + 1) (j + 1)) k 1 ((s_X1_copyFrom σ (k + 1) (j + 1)) j 1)) j 2)) j 3)) k 4 ((up (up (up (s_X1_copyFrom σ (k + 1) (j + 1)) k 1 ((s_X1_copyFrom σ (k + 1) (j + 1)) j 1)) k 2 ((up (s_X1_copyFrom σ (k + 1) (j + 1)) k 1 ((s_X1_copyFrom σ (k + 1) (j + 1)) j 1)) j 2)) k 3 ((up (up (s_X1_copyFrom σ (k + 1) (j + 1)) k 1 ((s_X1_copyFrom σ (k + 1) (j + 1)) j 1)) k 2 ((up (s_X1_copyFrom σ (k + 1) (j + 1)) k 1 ((s_X1_copyFrom σ (k + 1) (j + 1)) j 1)) j 2)) j 3)) j 4)) k 5 ((up (up (up (up (s_X1_copyFrom σ (k + 1) (j + 1)) k 1 ((s_X1_copyFrom σ (k + 1) (j + 1)) j 1)) k 2 ((up (s_X1_copyFrom σ (k + 1) (j + 1)) k 1 ((s_X1_copyFrom σ (k + 1) (j + 1)) j 1)) j 2)) k 3 ((up (up (s_X1_copyFrom σ (k + 1) (j + 1)) k 1 ((s_X1_copyFrom σ (k + 1) (j + 1)) j 1)) k 2 ((up (s_X1_copyFrom σ (k + 1) (j + 1)) k 1 ((s_X1_copyFrom σ (k + 1) (j + 1)) j 1)) j 2)) j 3)) k 4 ((up (up (up (s_X1_copyFrom σ (k + 1) (j + 1)) k 1 ((s_X1_copyFrom σ (k + 1) (j + 1)) j 1)) k 2 ((up (s_X1_copyFrom σ (k + 1) (j + 1)) k 1 ((s_X1_copyFrom σ (k + 1) (j + 1)) j 1)) j 2)) k 3 ((up (up (s_X1_copyFrom σ (k + 1) (j + 1)) k 1 ((s_X1_copyFrom σ (k + 1) (j + 1)) j 1)) k 2 ((up (s_X1_copyFrom σ (k + 1) (j + 1)) k 1 ((s_X1_copyFrom σ (k + 1) (j + 1)) j 1)) j 2)) j 3)) j 4)) j 5)) k 6 ((up (up (up (up (up (s_X1_copyFrom σ (k + 1) (j + 1)) k 1 ((s_X1_copyFrom σ (k + 1) (j + 1)) j 1)) k 2 ((up (s_X1_copyFrom σ (k + 1) (j + 1)) k 1 ((s_X1_copyFrom σ (k + 1) (j + 1)) j 1)) j 2)) k 3 ((up (up (s_X1_copyFrom σ (k + 1) (j + 1)) k 1 ((s_X1_copyFrom σ (k + 1) (j + 1)) j 1)) k 2 ((up (s_X1_copyFrom σ (k + 1) (j + 1)) k 1 ((s_X1_copyFrom σ (k + 1) (j + 1)) j 1)) j 2)) j 3)) k 4 ((up (up (up (s_X1_copyFrom σ (k + 1) (j + 1)) k 1 ((s_X1_copyFrom σ (k + 1) (j + 1)) j 1)) k 2 ((up (s_X1_copyFrom σ (k + 1) (j + 1)) k 1 ((s_X1_copyFrom σ (k + 1) (j + 1)) j 1)) j 2)) k 3 ((up (up (s_X1_copyFrom σ (k + 1) (j + 1)) k 1 ((s_X1_copyFrom σ (k + 1) (j + 1)) j 1)) k 2 ((up (s_X1_copyFrom σ (k + 1) (j + 1)) k 1 ((s_X1_copyFrom σ (k + 1) (j + 1)) j 1)) j 2)) j 3)) j 4)) k 5 ((up (up (up (up (s_X1_copyFrom σ (k + 1) (j + 1)) k 1 ((s_X1_copyFrom σ (k + 1) (j + 1)) j 1)) k 2 ((up (s_X1_copyFrom σ (k + 1) (j + 1)) k 1 ((s_X1_copyFrom σ (k + 1) (j + 1)) j 1)) j 2)) k 3 ((up (up (s_X1_copyFrom σ (k + 1) (j + 1)) k 1 ((s_X1_copyFrom σ (k + 1) (j + 1)) j 1)) k 2 ((up (s_X1_copyFrom σ (k + 1) (j + 1)) k 1 ((s_X1_copyFrom σ (k + 1) (j + 1)) j 1)) j 2)) j 3)) k 4 ((up (up (up (s_X1_copyFrom σ (k + 1) (j + 1)) k 1 ((s_X1_copyFrom σ (k + 1) (j + 1)) j 1)) k 2 ((up (s_X1_copyFrom σ (k + 1) (j + 1)) k 1 ((s_X1_copyFrom σ (k + 1) (j + 1)) j 1)) j 2)) k 3 ((up (up (s_X1_copyFrom σ (k + 1) (j + 1)) k 1 ((s_X1_copyFrom σ (k + 1) (j + 1)) j 1)) k 2 ((up (s_X1_copyFrom σ (k + 1) (j + 1)) k 1 ((s_X1_copyFrom σ (k + 1) (j + 1)) j 1)) j 2)) j 3)) j 4)) j 5)) j 6)) k 7 ((up (up (up (up (up (up (s_X1_copyFrom σ (k + 1) (j + 1)) k 1 ((s_X1_copyFrom σ (k + 1) (j + 1)) j 1)) k 2 ((up (s_X1_copyFrom σ (k + 1) (j + 1)) k 1 ((s_X1_copyFrom σ (k + 1) (j + 1)) j 1)) j 2)) k 3 ((up (up (s_X1_copyFrom σ (k + 1) (j + 1)) k 1 ((s_X1_copyFrom σ (k + 1) (j + 1)) j 1)) k 2 ((up (s_X1_copyFrom σ (k + 1) (j + 1)) k 1 ((s_X1_copyFrom σ (k + 1) (j + 1)) j 1)) j 2)) j 3)) k 4 ((up (up (up (s_X1_copyFrom σ (k + 1) (j + 1)) k 1 ((s_X1_copyFrom σ (k + 1) (j + 1)) j 1)) k 2 ((up (s_X1_copyFrom σ (k + 1) (j + 1)) k 1 ((s_X1_copyFrom σ (k + 1) (j + 1)) j 1)) j 2)) k 3 ((up (up (s_X1_copyFrom σ (k + 1) (j + 1)) k 1 ((s_X1_copyFrom σ (k + 1) (j + 1)) j 1)) k 2 ((up (s_X1_copyFrom σ (k + 1) (j + 1)) k 1 ((s_X1_copyFrom σ (k + 1) (j + 1)) j 1)) j 2)) j 3)) j 4)) k 5 ((up (up (up (up (s_X1_copyFrom σ (k + 1) (j + 1)) k 1 ((s_X1_copyFrom σ (k + 1) (j + 1)) j 1)) k 2 ((up (s_X1_copyFrom σ (k + 1) (j + 1)) k 1 ((s_X1_copyFrom σ (k + 1) (j + 1)) j 1)) j 2)) k 3 ((up (up (s_X1_copyFrom σ (k + 1) (j + 1)) k 1 ((s_X1_copyFrom σ (k + 1) (j + 1)) j 1)) k 2 ((up (s_X1_copyFrom σ (k + 1) (j + 1)) k 1 ((s_X1_copyFrom σ (k + 1) (j + 1)) j 1)) j 2)) j 3)) k 4 ((up (up (up (s_X1_copyFrom σ (k + 1) (j + 1)) k 1 ((s_X1_copyFrom σ (k + 1) (j + 1)) j 1)) k 2 ((up (s_X1_copyFrom σ (k + 1) (j + 1)) k 1 ((s_X1_copyFrom σ (k + 1) (j + 1)) j 1)) j 2)) k 3 ((up (up (s_X1_copyFrom σ (k + 1) (j + 1)) k 1 ((s_X1_copyFrom σ (k + 1) (j + 1)) j 1)) k 2 ((up (s_X1_copyFrom σ (k + 1) (j + 1)) k 1 ((s_X1_copyFrom σ (k + 1) (j + 1)) j 1)) j 2)) j 3)) j 4)) j 5)) k 6 ((up (up (up (up (up (s_X1_copyFrom σ (k + 1) (j + 1)) k 1 ((s_X1_copyFrom σ (k + 1) (j + 1)) j 1)) k 2 ((up (s_X1_copyFrom σ (k + 1) (j + 1)) k 1 ((s_X1_copyFrom σ (k + 1) (j + 1)) j 1)) j 2)) k 3 ((up (up (s_X1_copyFrom σ (k + 1) (j + 1)) k 1 ((s_X1_copyFrom σ (k + 1) (j + 1)) j 1)) k 2 ((up (s_X1_copyFrom σ (k + 1) (j + 1)) k 1 ((s_X1_copyFrom σ (k + 1) (j + 1)) j 1)) j 2)) j 3)) k 4 ((up (up (up (s_X1_copyFrom σ (k + 1) (j + 1)) k 1 ((s_X1_copyFrom σ (k + 1) (j + 1)) j 1)) k 2 ((up (s_X1_copyFrom σ (k + 1) (j + 1)) k 1 ((s_X1_copyFrom σ (k + 1) (j + 1)) j 1)) j 2)) k 3 ((up (up (s_X1_copyFrom σ (k + 1) (j + 1)) k 1 ((s_X1_copyFrom σ (k + 1) (j + 1)) j 1)) k 2 ((up (s_X1_copyFrom σ (k + 1) (j + 1)) k 1 ((s_X1_copyFrom σ (k + 1) (j + 1)) j 1)) j 2)) j 3)) j 4)) k 5 ((up (up (up (up (s_X1_copyFrom σ (k + 1) (j + 1)) k 1 ((s_X1_copyFrom σ (k + 1) (j + 1)) j 1)) k 2 ((up (s_X1_copyFrom σ (k + 1) (j + 1)) k 1 ((s_X1_copyFrom σ (k + 1) (j + 1)) j 1)) j 2)) k 3 ((up (up (s_X1_copyFrom σ (k + 1) (j + 1)) k 1 ((s_X1_copyFrom σ (k + 1) (j + 1)) j 1)) k 2 ((up (s_X1_copyFrom σ (k + 1) (j + 1)) k 1 ((s_X1_copyFrom σ (k + 1) (j + 1)) j 1)) j 2)) j 3)) k 4 ((up (up (up (s_X1_copyFrom σ (k + 1) (j + 1)) k 1 ((s_X1_copyFrom σ (k + 1) (j + 1)) j 1)) k 2 ((up (s_X1_copyFrom σ (k + 1) (j + 1)) k 1 ((s_X1_copyFrom σ (k + 1) (j + 1)) j 1)) j 2)) k 3 ((up (up (s_X1_copyFrom σ (k + 1) (j + 1)) k 1 ((s_X1_copyFrom σ (k + 1) (j + 1)) j 1)) k 2 ((up (s_X1_copyFrom σ (k + 1) (j + 1)) k 1 ((s_X1_copyFrom σ (k + 1) (j + 1)) j 1)) j 2)) j 3)) j 4)) j 5)) j 6)) j 7)) j 8)) k 9 ((up (up (up (up (up (up (up (up (s_X1_copyFrom σ (k + 1) (j + 1)) k 1 ((s_X1_copyFrom σ (k + 1) (j + 1)) j 1)) k 2 ((up (s_X1_copyFrom σ (k + 1) (j + 1)) k 1 ((s_X1_copyFrom σ (k + 1) (j + 1)) j 1)) j 2)) k 3 ((up (up (s_X1_copyFrom σ (k + 1) (j + 1)) k 1 ((s_X1_copyFrom σ (k + 1) (j + 1)) j 1)) k 2 ((up (s_X1_copyFrom σ (k + 1) (j + 1)) k 1 ((s_X1_copyFrom σ (k + 1) (j + 1)) j 1)) j 2)) j 3)) k 4 ((up (up (up (s_X1_copyFrom σ (k + 1) (j + 1)) k 1 ((s_X1_copyFrom σ (k + 1) (j + 1)) j 1)) k 2 ((up (s_X1_copyFrom σ (k + 1) (j + 1)) k 1 ((s_X1_copyFrom σ (k + 1) (j + 1)) j 1)) j 2)) k 3 ((up (up (s_X1_copyFrom σ (k + 1) (j + 1)) k 1 ((s_X1_copyFrom σ (k + 1) (j + 1)) j 1)) k 2 ((up (s_X1_copyFrom σ (k + 1) (j + 1)) k 1 ((s_X1_copyFrom σ (k + 1) (j + 1)) j 1)) j 2)) j 3)) j 4)) k 5 ((up (up (up (up (s_X1_copyFrom σ (k + 1) (j + 1)) k 1 ((s_X1_copyFrom σ (k + 1) (j + 1)) j 1)) k 2 ((up (s_X1_copyFrom σ (k + 1) (j + 1)) k 1 ((s_X1_copyFrom σ (k + 1) (j + 1)) j 1)) j 2)) k 3 ((up (up (s_X1_copyFrom σ (k + 1) (j + 1)) k 1 ((s_X1_copyFrom σ (k + 1) (j + 1)) j 1)) k 2 ((up (s_X1_copyFrom σ (k + 1) (j + 1)) k 1 ((s_X1_copyFrom σ (k + 1) (j + 1)) j 1)) j 2)) j 3)) k 4 ((up (up (up (s_X1_copyFrom σ (k + 1) (j + 1)) k 1 ((s_X1_copyFrom σ (k + 1) (j + 1)) j 1)) k 2 ((up (s_X1_copyFrom σ (k + 1) (j + 1)) k 1 ((s_X1_copyFrom σ (k + 1) (j + 1)) j 1)) j 2)) k 3 ((up (up (s_X1_copyFrom σ (k + 1) (j + 1)) k 1 ((s_X1_copyFrom σ (k + 1) (j + 1)) j 1)) k 2 ((up (s_X1_copyFrom σ (k + 1) (j + 1)) k 1 ((s_X1_copyFrom σ (k + 1) (j + 1)) j 1)) j 2)) j 3)) j 4)) j 5)) k 6 ((up (up (up (up (up (s_X1_copyFrom σ (k + 1) (j + 1)) k 1 ((s_X1_copyFrom σ (k + 1) (j + 1)) j 1)) k 2 ((up (s_X1_copyFrom σ (k + 1) (j + 1)) k 1 ((s_X1_copyFrom σ (k + 1) (j + 1)) j 1)) j 2)) k 3 ((up (up (s_X1_copyFrom σ (k + 1) (j + 1)) k 1 ((s_X1_copyFrom σ (k + 1) (j + 1)) j 1)) k 2 ((up (s_X1_copyFrom σ (k + 1) (j + 1)) k 1 ((s_X1_copyFrom σ (k + 1) (j + 1)) j 1)) j 2)) j 3)) k 4 ((up (up (up (s_X1_copyFrom σ (k + 1) (j + 1)) k 1 ((s_X1_copyFrom σ (k + 1) (j + 1)) j 1)) k 2 ((up (s_X1_copyFrom σ (k + 1) (j + 1)) k 1 ((s_X1_copyFrom σ (k + 1) (j + 1)) j 1)) j 2)) k 3 ((up (up (s_X1_copyFrom σ (k + 1) (j + 1)) k 1 ((s_X1_copyFrom σ (k + 1) (j + 1)) j 1)) k 2 ((up (s_X1_copyFrom σ (k + 1) (j + 1)) k 1 ((s_X1_copyFrom σ (k + 1) (j + 1)) j 1)) j 2)) j 3)) j 4)) k 5 ((up (up (up (up (s_X1_copyFrom σ (k + 1) (j + 1)) k 1 ((s_X1_copyFrom σ (k + 1) (j + 1)) j 1)) k 2 ((up (s_X1_copyFrom σ (k + 1) (j + 1)) k 1 ((s_X1_copyFrom σ (k + 1) (j + 1)) j 1)) j 2)) k 3 ((up (up (s_X1_copyFrom σ (k + 1) (j + 1)) k 1 ((s_X1_copyFrom σ (k + 1) (j + 1)) j 1)) k 2 ((up (s_X1_copyFrom σ (k + 1) (j + 1)) k 1 ((s_X1_copyFrom σ (k + 1) (j + 1)) j 1)) j 2)) j 3)) k 4 ((up (up (up (s_X1_copyFrom σ (k + 1) (j + 1)) k 1 ((s_X1_copyFrom σ (k + 1) (j + 1)) j 1)) k 2 ((up (s_X1_copyFrom σ (k + 1) (j + 1)) k 1 ((s_X1_copyFrom σ (k + 1) (j + 1)) j 1)) j 2)) k 3 ((up (up (s_X1_copyFrom σ (k + 1) (j + 1)) k 1 ((s_X1_copyFrom σ (k + 1) (j + 1)) j 1)) k 2 ((up (s_X1_copyFrom σ (k + 1) (j + 1)) k 1 ((s_X1_copyFrom σ (k + 1) (j + 1)) j 1)) j 2)) j 3)) j 4)) j 5)) j 6)) k 7 ((up (up (up (up (up (up (s_X1_copyFrom σ (k + 1) (j + 1)) k 1 ((s_X1_copyFrom σ (k + 1) (j + 1)) j 1)) k 2 ((up (s_X1_copyFrom σ (k + 1) (j + 1)) k 1 ((s_X1_copyFrom σ (k + 1) (j + 1)) j 1)) j 2)) k 3 ((up (up (s_X1_copyFrom σ (k + 1) (j + 1)) k 1 ((s_X1_copyFrom σ (k + 1) (j + 1)) j 1)) k 2 ((up (s_X1_copyFrom σ (k + 1) (j + 1)) k 1 ((s_X1_copyFrom σ (k + 1) (j + 1)) j 1)) j 2)) j 3)) k 4 ((up (up (up (s_X1_copyFrom σ (k + 1) (j + 1)) k 1 ((s_X1_copyFrom σ (k + 1) (j + 1)) j 1)) k 2 ((up (s_X1_copyFrom σ (k + 1) (j + 1)) k 1 ((s_X1_copyFrom σ (k + 1) (j + 1)) j 1)) j 2)) k 3 ((up (up (s_X1_copyFrom σ (k + 1) (j + 1)) k 1 ((s_X1_copyFrom σ (k + 1) (j + 1)) j 1)) k 2 ((up (s_X1_copyFrom σ (k + 1) (j + 1)) k 1 ((s_X1_copyFrom σ (k + 1) (j + 1)) j 1)) j 2)) j 3)) j 4)) k 5 ((up (up (up (up (s_X1_copyFrom σ (k + 1) (j + 1)) k 1 ((s_X1_copyFrom σ (k + 1) (j + 1)) j 1)) k 2 ((up (s_X1_copyFrom σ (k + 1) (j + 1)) k 1 ((s_X1_copyFrom σ (k + 1) (j + 1)) j 1)) j 2)) k 3 ((up (up (s_X1_copyFrom σ (k + 1) (j + 1)) k 1 ((s_X1_copyFrom σ (k + 1) (j + 1)) j 1)) k 2 ((up (s_X1_copyFrom σ (k + 1) (j + 1)) k 1 ((s_X1_copyFrom σ (k + 1) (j + 1)) j 1)) j 2)) j 3)) k 4 ((up (up (up (s_X1_copyFrom σ (k + 1) (j + 1)) k 1 ((s_X1_copyFrom σ (k + 1) (j + 1)) j 1)) k 2 ((up (s_X1_copyFrom σ (k + 1) (j + 1)) k 1 ((s_X1_copyFrom σ (k + 1) (j + 1)) j 1)) j 2)) k 3 ((up (up (s_X1_copyFrom σ (k + 1) (j + 1)) k 1 ((s_X1_copyFrom σ (k + 1) (j + 1)) j 1)) k 2 ((up (s_X1_copyFrom σ (k + 1) (j + 1)) k 1 ((s_X1_copyFrom σ (k + 1) (j + 1)) j 1)) j 2)) j 3)) j 4)) j 5)) k 6 ((up (up (up (up (up (s_X1_copyFrom σ (k + 1) (j + 1)) k 1 ((s_X1_copyFrom σ (k + 1) (j + 1)) j 1)) k 2 ((up (s_X1_copyFrom σ (k + 1) (j + 1)) k 1 ((s_X1_copyFrom σ (k + 1) (j + 1)) j 1)) j 2)) k 3 ((up (up (s_X1_copyFrom σ (k + 1) (j + 1)) k 1 ((s_X1_copyFrom σ (k + 1) (j + 1)) j 1)) k 2 ((up (s_X1_copyFrom σ (k + 1) (j + 1)) k 1 ((s_X1_copyFrom σ (k + 1) (j + 1)) j 1)) j 2)) j 3)) k 4 ((up (up (up (s_X1_copyFrom σ (k + 1) (j + 1)) k 1 ((s_X1_copyFrom σ (k + 1) (j + 1)) j 1)) k 2 ((up (s_X1_copyFrom σ (k + 1) (j + 1)) k 1 ((s_X1_copyFrom σ (k + 1) (j + 1)) j 1)) j 2)) k 3 ((up (up (s_X1_copyFrom σ (k + 1) (j + 1)) k 1 ((s_X1_copyFrom σ (k + 1) (j + 1)) j 1)) k 2 ((up (s_X1_copyFrom σ (k + 1) (j + 1)) k 1 ((s_X1_copyFrom σ (k + 1) (j + 1)) j 1)) j 2)) j 3)) j 4)) k 5 ((up (up (up (up (s_X1_copyFrom σ (k + 1) (j + 1)) k 1 ((s_X1_copyFrom σ (k + 1) (j + 1)) j 1)) k 2 ((up (s_X1_copyFrom σ (k + 1) (j + 1)) k 1 ((s_X1_copyFrom σ (k + 1) (j + 1)) j 1)) j 2)) k 3 ((up (up (s_X1_copyFrom σ (k + 1) (j + 1)) k 1 ((s_X1_copyFrom σ (k + 1) (j + 1)) j 1)) k 2 ((up (s_X1_copyFrom σ (k + 1) (j + 1)) k 1 ((s_X1_copyFrom σ (k + 1) (j + 1)) j 1)) j 2)) j 3)) k 4 ((up (up (up (s_X1_copyFrom σ (k + 1) (j + 1)) k 1 ((s_X1_copyFrom σ (k + 1) (j + 1)) j 1)) k 2 ((up (s_X1_copyFrom σ (k + 1) (j + 1)) k 1 ((s_X1_copyFrom σ (k + 1) (j + 1)) j 1)) j 2)) k 3 ((up (up (s_X1_copyFrom σ (k + 1) (j + 1)) k 1 ((s_X1_copyFrom σ (k + 1) (j + 1)) j 1)) k 2 ((up (s_X1_copyFrom σ (k + 1) (j + 1)) k 1 ((s_X1_copyFrom σ (k + 1) (j + 1)) j 1)) j 2)) j 3)) j 4)) j 5)) j 6)) j 7)) k 8 ((up (up (up (up (up (up (up (s_X1_copyFrom σ (k + 1) (j + 1)) k 1 ((s_X1_copyFrom σ (k + 1) (j + 1)) j 1)) k 2 ((up (s_X1_copyFrom σ (k + 1) (j + 1)) k 1 ((s_X1_copyFrom σ (k + 1) (j + 1)) j 1)) j 2)) k 3 ((up (up (s_X1_copyFrom σ (k + 1) (j + 1)) k 1 ((s_X1_copyFrom σ (k + 1) (j + 1)) j 1)) k 2 ((up (s_X1_copyFrom σ (k + 1) (j + 1)) k 1 ((s_X1_copyFrom σ (k + 1) (j + 1)) j 1)) j 2)) j 3)) k 4 ((up (up (up (s_X1_copyFrom σ (k + 1) (j + 1)) k 1 ((s_X1_copyFrom σ (k + 1) (j + 1)) j 1)) k 2 ((up (s_X1_copyFrom σ (k + 1) (j + 1)) k 1 ((s_X1_copyFrom σ (k + 1) (j + 1)) j 1)) j 2)) k 3 ((up (up (s_X1_copyFrom σ (k + 1) (j + 1)) k 1 ((s_X1_copyFrom σ (k + 1) (j + 1)) j 1)) k 2 ((up (s_X1_copyFrom σ (k + 1) (j + 1)) k 1 ((s_X1_copyFrom σ (k + 1) (j + 1)) j 1)) j 2)) j 3)) j 4)) k 5 ((up (up (up (up (s_X1_copyFrom σ (k + 1) (j + 1)) k 1 ((s_X1_copyFrom σ (k + 1) (j + 1)) j 1)) k 2 ((up (s_X1_copyFrom σ (k + 1) (j + 1)) k 1 ((s_X1_copyFrom σ (k + 1) (j + 1)) j 1)) j 2)) k 3 ((up (up (s_X1_copyFrom σ (k + 1) (j + 1)) k 1 ((s_X1_copyFrom σ (k + 1) (j + 1)) j 1)) k 2 ((up (s_X1_copyFrom σ (k + 1) (j + 1)) k 1 ((s_X1_copyFrom σ (k + 1) (j + 1)) j 1)) j 2)) j 3)) k 4 ((up (up (up (s_X1_copyFrom σ (k + 1) (j + 1)) k 1 ((s_X1_copyFrom σ (k + 1) (j + 1)) j 1)) k 2 ((up (s_X1_copyFrom σ (k + 1) (j + 1)) k 1 ((s_X1_copyFrom σ (k + 1) (j + 1)) j 1)) j 2)) k 3 ((up (up (s_X1_copyFrom σ (k + 1) (j + 1)) k 1 ((s_X1_copyFrom σ (k + 1) (j + 1)) j 1)) k 2 ((up (s_X1_copyFrom σ (k + 1) (j + 1)) k 1 ((s_X1_copyFrom σ (k + 1) (j + 1)) j 1)) j 2)) j 3)) j 4)) j 5)) k 6 ((up (up (up (up (up (s_X1_copyFrom σ (k + 1) (j + 1)) k 1 ((s_X1_copyFrom σ (k + 1) (j + 1)) j 1)) k 2 ((up (s_X1_copyFrom σ (k + 1) (j + 1)) k 1 ((s_X1_copyFrom σ (k + 1) (j + 1)) j 1)) j 2)) k 3 ((up (up (s_X1_copyFrom σ (k + 1) (j + 1)) k 1 ((s_X1_copyFrom σ (k + 1) (j + 1)) j 1)) k 2 ((up (s_X1_copyFrom σ (k + 1) (j + 1)) k 1 ((s_X1_copyFrom σ (k + 1) (j + 1)) j 1)) j 2)) j 3)) k 4 ((up (up (up (s_X1_copyFrom σ (k + 1) (j + 1)) k 1 ((s_X1_copyFrom σ (k + 1) (j + 1)) j 1)) k 2 ((up (s_X1_copyFrom σ (k + 1) (j + 1)) k 1 ((s_X1_copyFrom σ (k + 1) (j + 1)) j 1)) j 2)) k 3 ((up (up (s_X1_copyFrom σ (k + 1) (j + 1)) k 1 ((s_X1_copyFrom σ (k + 1) (j + 1)) j 1)) k 2 ((up (s_X1_copyFrom σ (k + 1) (j + 1)) k 1 ((s_X1_copyFrom σ (k + 1) (j + 1)) j 1)) j 2)) j 3)) j 4)) k 5 ((up (up (up (up (s_X1_copyFrom σ (k + 1) (j + 1)) k 1 ((s_X1_copyFrom σ (k + 1) (j + 1)) j 1)) k 2 ((up (s_X1_copyFrom σ (k + 1) (j + 1)) k 1 ((s_X1_copyFrom σ (k + 1) (j + 1)) j 1)) j 2)) k 3 ((up (up (s_X1_copyFrom σ (k + 1) (j + 1)) k 1 ((s_X1_copyFrom σ (k + 1) (j + 1)) j 1)) k 2 ((up (s_X1_copyFrom σ (k + 1) (j + 1)) k 1 ((s_X1_copyFrom σ (k + 1) (j + 1)) j 1)) j 2)) j 3)) k 4 ((up (up (up (s_X1_copyFrom σ (k + 1) (j + 1)) k 1 ((s_X1_copyFrom σ (k + 1) (j + 1)) j 1)) k 2 ((up (s_X1_copyFrom σ (k + 1) (j + 1)) k 1 ((s_X1_copyFrom σ (k + 1) (j + 1)) j 1)) j 2)) k 3 ((up (up (s_X1_copyFrom σ (k + 1) (j + 1)) k 1 ((s_X1_copyFrom σ (k + 1) (j + 1)) j 1)) k 2 ((up (s_X1_copyFrom σ (k + 1) (j + 1)) k 1 ((s_X1_copyFrom σ (k + 1) (j + 1)) j 1)) j 2)) j 3)) j 4)) j 5)) j 6)) k 7 ((up (up (up (up (up (up (s_X1_copyFrom σ (k + 1) (j + 1)) k 1 ((s_X1_copyFrom σ (k + 1) (j + 1)) j 1)) k 2 ((up (s_X1_copyFrom σ (k + 1) (j + 1)) k 1 ((s_X1_copyFrom σ (k + 1) (j + 1)) j 1)) j 2)) k 3 ((up (up (s_X1_copyFrom σ (k + 1) (j + 1)) k 1 ((s_X1_copyFrom σ (k + 1) (j + 1)) j 1)) k 2 ((up (s_X1_copyFrom σ (k + 1) (j + 1)) k 1 ((s_X1_copyFrom σ (k + 1) (j + 1)) j 1)) j 2)) j 3)) k 4 ((up (up (up (s_X1_copyFrom σ (k + 1) (j + 1)) k 1 ((s_X1_copyFrom σ (k + 1) (j + 1)) j 1)) k 2 ((up (s_X1_copyFrom σ (k + 1) (j + 1)) k 1 ((s_X1_copyFrom σ (k + 1) (j + 1)) j 1)) j 2)) k 3 ((up (up (s_X1_copyFrom σ (k + 1) (j + 1)) k 1 ((s_X1_copyFrom σ (k + 1) (j + 1)) j 1)) k 2 ((up (s_X1_copyFrom σ (k + 1) (j + 1)) k 1 ((s_X1_copyFrom σ (k + 1) (j + 1)) j 1)) j 2)) j 3)) j 4)) k 5 ((up (up (up (up (s_X1_copyFrom σ (k + 1) (j + 1)) k 1 ((s_X1_copyFrom σ (k + 1) (j + 1)) j 1)) k 2 ((up (s_X1_copyFrom σ (k + 1) (j + 1)) k 1 ((s_X1_copyFrom σ (k + 1) (j + 1)) j 1)) j 2)) k 3 ((up (up (s_X1_copyFrom σ (k + 1) (j + 1)) k 1 ((s_X1_copyFrom σ (k + 1) (j + 1)) j 1)) k 2 ((up (s_X1_copyFrom σ (k + 1) (j + 1)) k 1 ((s_X1_copyFrom σ (k + 1) (j + 1)) j 1)) j 2)) j 3)) k 4 ((up (up (up (s_X1_copyFrom σ (k + 1) (j + 1)) k 1 ((s_X1_copyFrom σ (k + 1) (j + 1)) j 1)) k 2 ((up (s_X1_copyFrom σ (k + 1) (j + 1)) k 1 ((s_X1_copyFrom σ (k + 1) (j + 1)) j 1)) j 2)) k 3 ((up (up (s_X1_copyFrom σ (k + 1) (j + 1)) k 1 ((s_X1_copyFrom σ (k + 1) (j + 1)) j 1)) k 2 ((up (s_X1_copyFrom σ (k + 1) (j + 1)) k 1 ((s_X1_copyFrom σ (k + 1) (j + 1)) j 1)) j 2)) j 3)) j 4)) j 5)) k 6 ((up (up (up (up (up (s_X1_copyFrom σ (k + 1) (j + 1)) k 1 ((s_X1_copyFrom σ (k + 1) (j + 1)) j 1)) k 2 ((up (s_X1_copyFrom σ (k + 1) (j + 1)) k 1 ((s_X1_copyFrom σ (k + 1) (j + 1)) j 1)) j 2)) k 3 ((up (up (s_X1_copyFrom σ (k + 1) (j + 1)) k 1 ((s_X1_copyFrom σ (k + 1) (j + 1)) j 1)) k 2 ((up (s_X1_copyFrom σ (k + 1) (j + 1)) k 1 ((s_X1_copyFrom σ (k + 1) (j + 1)) j 1)) j 2)) j 3)) k 4 ((up (up (up (s_X1_copyFrom σ (k + 1) (j + 1)) k 1 ((s_X1_copyFrom σ (k + 1) (j + 1)) j 1)) k 2 ((up (s_X1_copyFrom σ (k + 1) (j + 1)) k 1 ((s_X1_copyFrom σ (k + 1) (j + 1)) j 1)) j 2)) k 3 ((up (up (s_X1_copyFrom σ (k + 1) (j + 1)) k 1 ((s_X1_copyFrom σ (k + 1) (j + 1)) j 1)) k 2 ((up (s_X1_copyFrom σ (k + 1) (j + 1)) k 1 ((s_X1_copyFrom σ (k + 1) (j + 1)) j 1)) j 2)) j 3)) j 4)) k 5 ((up (up (up (up (s_X1_copyFrom σ (k + 1) (j + 1)) k 1 ((s_X1_copyFrom σ (k + 1) (j + 1)) j 1)) k 2 ((up (s_X1_copyFrom σ (k + 1) (j + 1)) k 1 ((s_X1_copyFrom σ (k + 1) (j + 1)) j 1)) j 2)) k 3 ((up (up (s_X1_copyFrom σ (k + 1) (j + 1)) k 1 ((s_X1_copyFrom σ (k + 1) (j + 1)) j 1)) k 2 ((up (s_X1_copyFrom σ (k + 1) (j + 1)) k 1 ((s_X1_copyFrom σ (k + 1) (j + 1)) j 1)) j 2)) j 3)) k 4 ((up (up (up (s_X1_copyFrom σ (k + 1) (j + 1)) k 1 ((s_X1_copyFrom σ (k + 1) (j + 1)) j 1)) k 2 ((up (s_X1_copyFrom σ (k + 1) (j + 1)) k 1 ((s_X1_copyFrom σ (k + 1) (j + 1)) j 1)) j 2)) k 3 ((up (up (s_X1_copyFrom σ (k + 1) (j + 1)) k 1 ((s_X1_copyFrom σ (k + 1) (j + 1)) j 1)) k 2 ((up (s_X1_copyFrom σ (k + 1) (j + 1)) k 1 ((s_X1_copyFrom σ (k + 1) (j + 1)) j 1)) j 2)) j 3)) j 4)) j 5)) j 6)) j 7)) j 8)) j 9)) j 10)) k 11 ((up (up (up (up (up (up (up (up (up (up (s_X1_copyFrom σ (k + 1) (j + 1)) k 1 ((s_X1_copyFrom σ (k + 1) (j + 1)) j 1)) k 2 ((up (s_X1_copyFrom σ (k + 1) (j + 1)) k 1 ((s_X1_copyFrom σ (k + 1) (j + 1)) j 1)) j 2)) k 3 ((up (up (s_X1_copyFrom σ (k + 1) (j + 1)) k 1 ((s_X1_copyFrom σ (k + 1) (j + 1)) j 1)) k 2 ((up (s_X1_copyFrom σ (k + 1) (j + 1)) k 1 ((s_X1_copyFrom σ (k + 1) (j + 1)) j 1)) j 2)) j 3)) k 4 ((up (up (up (s_X1_copyFrom σ (k + 1) (j + 1)) k 1 ((s_X1_copyFrom σ (k + 1) (j + 1)) j 1)) k 2 ((up (s_X1_copyFrom σ (k + 1) (j + 1)) k 1 ((s_X1_copyFrom σ (k + 1) (j + 1)) j 1)) j 2)) k 3 ((up (up (s_X1_copyFrom σ (k + 1) (j + 1)) k 1 ((s_X1_copyFrom σ (k + 1) (j + 1)) j 1)) k 2 ((up (s_X1_copyFrom σ (k + 1) (j + 1)) k 1 ((s_X1_copyFrom σ (k + 1) (j + 1)) j 1)) j 2)) j 3)) j 4)) k 5 ((up (up (up (up (s_X1_copyFrom σ (k + 1) (j + 1)) k 1 ((s_X1_copyFrom σ (k + 1) (j + 1)) j 1)) k 2 ((up (s_X1_copyFrom σ (k + 1) (j + 1)) k 1 ((s_X1_copyFrom σ (k + 1) (j + 1)) j 1)) j 2)) k 3 ((up (up (s_X1_copyFrom σ (k + 1) (j + 1)) k 1 ((s_X1_copyFrom σ (k + 1) (j + 1)) j 1)) k 2 ((up (s_X1_copyFrom σ (k + 1) (j + 1)) k 1 ((s_X1_copyFrom σ (k + 1) (j + 1)) j 1)) j 2)) j 3)) k 4 ((up (up (up (s_X1_copyFrom σ (k + 1) (j + 1)) k 1 ((s_X1_copyFrom σ (k + 1) (j + 1)) j 1)) k 2 ((up (s_X1_copyFrom σ (k + 1) (j + 1)) k 1 ((s_X1_copyFrom σ (k + 1) (j + 1)) j 1)) j 2)) k 3 ((up (up (s_X1_copyFrom σ (k + 1) (j + 1)) k 1 ((s_X1_copyFrom σ (k + 1) (j + 1)) j 1)) k 2 ((up (s_X1_copyFrom σ (k + 1) (j + 1)) k 1 ((s_X1_copyFrom σ (k + 1) (j + 1)) j 1)) j 2)) j 3)) j 4)) j 5)) k 6 ((up (up (up (up (up (s_X1_copyFrom σ (k + 1) (j + 1)) k 1 ((s_X1_copyFrom σ (k + 1) (j + 1)) j 1)) k 2 ((up (s_X1_copyFrom σ (k + 1) (j + 1)) k 1 ((s_X1_copyFrom σ (k + 1) (j + 1)) j 1)) j 2)) k 3 ((up (up (s_X1_copyFrom σ (k + 1) (j + 1)) k 1 ((s_X1_copyFrom σ (k + 1) (j + 1)) j 1)) k 2 ((up (s_X1_copyFrom σ (k + 1) (j + 1)) k 1 ((s_X1_copyFrom σ (k + 1) (j + 1)) j 1)) j 2)) j 3)) k 4 ((up (up (up (s_X1_copyFrom σ (k + 1) (j + 1)) k 1 ((s_X1_copyFrom σ (k + 1) (j + 1)) j 1)) k 2 ((up (s_X1_copyFrom σ (k + 1) (j + 1)) k 1 ((s_X1_copyFrom σ (k + 1) (j + 1)) j 1)) j 2)) k 3 ((up (up (s_X1_copyFrom σ (k + 1) (j + 1)) k 1 ((s_X1_copyFrom σ (k + 1) (j + 1)) j 1)) k 2 ((up (s_X1_copyFrom σ (k + 1) (j + 1)) k 1 ((s_X1_copyFrom σ (k + 1) (j + 1)) j 1)) j 2)) j 3)) j 4)) k 5 ((up (up (up (up (s_X1_copyFrom σ (k + 1) (j + 1)) k 1 ((s_X1_copyFrom σ (k + 1) (j + 1)) j 1)) k 2 ((up (s_X1_copyFrom σ (k + 1) (j + 1)) k 1 ((s_X1_copyFrom σ (k + 1) (j + 1)) j 1)) j 2)) k 3 ((up (up (s_X1_copyFrom σ (k + 1) (j + 1)) k 1 ((s_X1_copyFrom σ (k + 1) (j + 1)) j 1)) k 2 ((up (s_X1_copyFrom σ (k + 1) (j + 1)) k 1 ((s_X1_copyFrom σ (k + 1) (j + 1)) j 1)) j 2)) j 3)) k 4 ((up (up (up (s_X1_copyFrom σ (k + 1) (j + 1)) k 1 ((s_X1_copyFrom σ (k + 1) (j + 1)) j 1)) k 2 ((up (s_X1_copyFrom σ (k + 1) (j + 1)) k 1 ((s_X1_copyFrom σ (k + 1) (j + 1)) j 1)) j 2)) k 3 ((up (up (s_X1_copyFrom σ (k + 1) (j + 1)) k 1 ((s_X1_copyFrom σ (k + 1) (j + 1)) j 1)) k 2 ((up (s_X1_copyFrom σ (k + 1) (j + 1)) k 1 ((s_X1_copyFrom σ (k + 1) (j + 1)) j 1)) j 2)) j 3)) j 4)) j 5)) j 6)) k 7 ((up (up (up (up (up (up (s_X1_copyFrom σ (k + 1) (j + 1)) k 1 ((s_X1_copyFrom σ (k + 1) (j + 1)) j 1)) k 2 ((up (s_X1_copyFrom σ (k + 1) (j + 1)) k 1 ((s_X1_copyFrom σ (k + 1) (j + 1)) j 1)) j 2)) k 3 ((up (up (s_X1_copyFrom σ (k + 1) (j + 1)) k 1 ((s_X1_copyFrom σ (k + 1) (j + 1)) j 1)) k 2 ((up (s_X1_copyFrom σ (k + 1) (j + 1)) k 1 ((s_X1_copyFrom σ (k + 1) (j + 1)) j 1)) j 2)) j 3)) k 4 ((up (up (up (s_X1_copyFrom σ (k + 1) (j + 1)) k 1 ((s_X1_copyFrom σ (k + 1) (j + 1)) j 1)) k 2 ((up (s_X1_copyFrom σ (k + 1) (j + 1)) k 1 ((s_X1_copyFrom σ (k + 1) (j + 1)) j 1)) j 2)) k 3 ((up (up (s_X1_copyFrom σ (k + 1) (j + 1)) k 1 ((s_X1_copyFrom σ (k + 1) (j + 1)) j 1)) k 2 ((up (s_X1_copyFrom σ (k + 1) (j + 1)) k 1 ((s_X1_copyFrom σ (k + 1) (j + 1)) j 1)) j 2)) j 3)) j 4)) k 5 ((up (up (up (up (s_X1_copyFrom σ (k + 1) (j + 1)) k 1 ((s_X1_copyFrom σ (k + 1) (j + 1)) j 1)) k 2 ((up (s_X1_copyFrom σ (k + 1) (j + 1)) k 1 ((s_X1_copyFrom σ (k + 1) (j + 1)) j 1)) j 2)) k 3 ((up (up (s_X1_copyFrom σ (k + 1) (j + 1)) k 1 ((s_X1_copyFrom σ (k + 1) (j + 1)) j 1)) k 2 ((up (s_X1_copyFrom σ (k + 1) (j + 1)) k 1 ((s_X1_copyFrom σ (k + 1) (j + 1)) j 1)) j 2)) j 3)) k 4 ((up (up (up (s_X1_copyFrom σ (k + 1) (j + 1)) k 1 ((s_X1_copyFrom σ (k + 1) (j + 1)) j 1)) k 2 ((up (s_X1_copyFrom σ (k + 1) (j + 1)) k 1 ((s_X1_copyFrom σ (k + 1) (j + 1)) j 1)) j 2)) k 3 ((up (up (s_X1_copyFrom σ (k + 1) (j + 1)) k 1 ((s_X1_copyFrom σ (k + 1) (j + 1)) j 1)) k 2 ((up (s_X1_copyFrom σ (k + 1) (j + 1)) k 1 ((s_X1_copyFrom σ (k + 1) (j + 1)) j 1)) j 2)) j 3)) j 4)) j 5)) k 6 ((up (up (up (up (up (s_X1_copyFrom σ (k + 1) (j + 1)) k 1 ((s_X1_copyFrom σ (k + 1) (j + 1)) j 1)) k 2 ((up (s_X1_copyFrom σ (k + 1) (j + 1)) k 1 ((s_X1_copyFrom σ (k + 1) (j + 1)) j 1)) j 2)) k 3 ((up (up (s_X1_copyFrom σ (k + 1) (j + 1)) k 1 ((s_X1_copyFrom σ (k + 1) (j + 1)) j 1)) k 2 ((up (s_X1_copyFrom σ (k + 1) (j + 1)) k 1 ((s_X1_copyFrom σ (k + 1) (j + 1)) j 1)) j 2)) j 3)) k 4 ((up (up (up (s_X1_copyFrom σ (k + 1) (j + 1)) k 1 ((s_X1_copyFrom σ (k + 1) (j + 1)) j 1)) k 2 ((up (s_X1_copyFrom σ (k + 1) (j + 1)) k 1 ((s_X1_copyFrom σ (k + 1) (j + 1)) j 1)) j 2)) k 3 ((up (up (s_X1_copyFrom σ (k + 1) (j + 1)) k 1 ((s_X1_copyFrom σ (k + 1) (j + 1)) j 1)) k 2 ((up (s_X1_copyFrom σ (k + 1) (j + 1)) k 1 ((s_X1_copyFrom σ (k + 1) (j + 1)) j 1)) j 2)) j 3)) j 4)) k 5 ((up (up (up (up (s_X1_copyFrom σ (k + 1) (j + 1)) k 1 ((s_X1_copyFrom σ (k + 1) (j + 1)) j 1)) k 2 ((up (s_X1_copyFrom σ (k + 1) (j + 1)) k 1 ((s_X1_copyFrom σ (k + 1) (j + 1)) j 1)) j 2)) k 3 ((up (up (s_X1_copyFrom σ (k + 1) (j + 1)) k 1 ((s_X1_copyFrom σ (k + 1) (j + 1)) j 1)) k 2 ((up (s_X1_copyFrom σ (k + 1) (j + 1)) k 1 ((s_X1_copyFrom σ (k + 1) (j + 1)) j 1)) j 2)) j 3)) k 4 ((up (up (up (s_X1_copyFrom σ (k + 1) (j + 1)) k 1 ((s_X1_copyFrom σ (k + 1) (j + 1)) j 1)) k 2 ((up (s_X1_copyFrom σ (k + 1) (j + 1)) k 1 ((s_X1_copyFrom σ (k + 1) (j + 1)) j 1)) j 2)) k 3 ((up (up (s_X1_copyFrom σ (k + 1) (j + 1)) k 1 ((s_X1_copyFrom σ (k + 1) (j + 1)) j 1)) k 2 ((up (s_X1_copyFrom σ (k + 1) (j + 1)) k 1 ((s_X1_copyFrom σ (k + 1) (j + 1)) j 1)) j 2)) j 3)) j 4)) j 5)) j 6)) j 7)) k 8 ((up (up (up (up (up (up (up (s_X1_copyFrom σ (k + 1) (j + 1)) k 1 ((s_X1_copyFrom σ (k + 1) (j + 1)) j 1)) k 2 ((up (s_X1_copyFrom σ (k + 1) (j + 1)) k 1 ((s_X1_copyFrom σ (k + 1) (j + 1)) j 1)) j 2)) k 3 ((up (up (s_X1_copyFrom σ (k + 1) (j + 1)) k 1 ((s_X1_copyFrom σ (k + 1) (j + 1)) j 1)) k 2 ((up (s_X1_copyFrom σ (k + 1) (j + 1)) k 1 ((s_X1_copyFrom σ (k + 1) (j + 1)) j 1)) j 2)) j 3)) k 4 ((up (up (up (s_X1_copyFrom σ (k + 1) (j + 1)) k 1 ((s_X1_copyFrom σ (k + 1) (j + 1)) j 1)) k 2 ((up (s_X1_copyFrom σ (k + 1) (j + 1)) k 1 ((s_X1_copyFrom σ (k + 1) (j + 1)) j 1)) j 2)) k 3 ((up (up (s_X1_copyFrom σ (k + 1) (j + 1)) k 1 ((s_X1_copyFrom σ (k + 1) (j + 1)) j 1)) k 2 ((up (s_X1_copyFrom σ (k + 1) (j + 1)) k 1 ((s_X1_copyFrom σ (k + 1) (j + 1)) j 1)) j 2)) j 3)) j 4)) k 5 ((up (up (up (up (s_X1_copyFrom σ (k + 1) (j + 1)) k 1 ((s_X1_copyFrom σ (k + 1) (j + 1)) j 1)) k 2 ((up (s_X1_copyFrom σ (k + 1) (j + 1)) k 1 ((s_X1_copyFrom σ (k + 1) (j + 1)) j 1)) j 2)) k 3 ((up (up (s_X1_copyFrom σ (k + 1) (j + 1)) k 1 ((s_X1_copyFrom σ (k + 1) (j + 1)) j 1)) k 2 ((up (s_X1_copyFrom σ (k + 1) (j + 1)) k 1 ((s_X1_copyFrom σ (k + 1) (j + 1)) j 1)) j 2)) j 3)) k 4 ((up (up (up (s_X1_copyFrom σ (k + 1) (j + 1)) k 1 ((s_X1_copyFrom σ (k + 1) (j + 1)) j 1)) k 2 ((up (s_X1_copyFrom σ (k + 1) (j + 1)) k 1 ((s_X1_copyFrom σ (k + 1) (j + 1)) j 1)) j 2)) k 3 ((up (up (s_X1_copyFrom σ (k + 1) (j + 1)) k 1 ((s_X1_copyFrom σ (k + 1) (j + 1)) j 1)) k 2 ((up (s_X1_copyFrom σ (k + 1) (j + 1)) k 1 ((s_X1_copyFrom σ (k + 1) (j + 1)) j 1)) j 2)) j 3)) j 4)) j 5)) k 6 ((up (up (up (up (up (s_X1_copyFrom σ (k + 1) (j + 1)) k 1 ((s_X1_copyFrom σ (k + 1) (j + 1)) j 1)) k 2 ((up (s_X1_copyFrom σ (k + 1) (j + 1)) k 1 ((s_X1_copyFrom σ (k + 1) (j + 1)) j 1)) j 2)) k 3 ((up (up (s_X1_copyFrom σ (k + 1) (j + 1)) k 1 ((s_X1_copyFrom σ (k + 1) (j + 1)) j 1)) k 2 ((up (s_X1_copyFrom σ (k + 1) (j + 1)) k 1 ((s_X1_copyFrom σ (k + 1) (j + 1)) j 1)) j 2)) j 3)) k 4 ((up (up (up (s_X1_copyFrom σ (k + 1) (j + 1)) k 1 ((s_X1_copyFrom σ (k + 1) (j + 1)) j 1)) k 2 ((up (s_X1_copyFrom σ (k + 1) (j + 1)) k 1 ((s_X1_copyFrom σ (k + 1) (j + 1)) j 1)) j 2)) k 3 ((up (up (s_X1_copyFrom σ (k + 1) (j + 1)) k 1 ((s_X1_copyFrom σ (k + 1) (j + 1)) j 1)) k 2 ((up (s_X1_copyFrom σ (k + 1) (j + 1)) k 1 ((s_X1_copyFrom σ (k + 1) (j + 1)) j 1)) j 2)) j 3)) j 4)) k 5 ((up (up (up (up (s_X1_copyFrom σ (k + 1) (j + 1)) k 1 ((s_X1_copyFrom σ (k + 1) (j + 1)) j 1)) k 2 ((up (s_X1_copyFrom σ (k + 1) (j + 1)) k 1 ((s_X1_copyFrom σ (k + 1) (j + 1)) j 1)) j 2)) k 3 ((up (up (s_X1_copyFrom σ (k + 1) (j + 1)) k 1 ((s_X1_copyFrom σ (k + 1) (j + 1)) j 1)) k 2 ((up (s_X1_copyFrom σ (k + 1) (j + 1)) k 1 ((s_X1_copyFrom σ (k + 1) (j + 1)) j 1)) j 2)) j 3)) k 4 ((up (up (up (s_X1_copyFrom σ (k + 1) (j + 1)) k 1 ((s_X1_copyFrom σ (k + 1) (j + 1)) j 1)) k 2 ((up (s_X1_copyFrom σ (k + 1) (j + 1)) k 1 ((s_X1_copyFrom σ (k + 1) (j + 1)) j 1)) j 2)) k 3 ((up (up (s_X1_copyFrom σ (k + 1) (j + 1)) k 1 ((s_X1_copyFrom σ (k + 1) (j + 1)) j 1)) k 2 ((up (s_X1_copyFrom σ (k + 1) (j + 1)) k 1 ((s_X1_copyFrom σ (k + 1) (j + 1)) j 1)) j 2)) j 3)) j 4)) j 5)) j 6)) k 7 ((up (up (up (up (up (up (s_X1_copyFrom σ (k + 1) (j + 1)) k 1 ((s_X1_copyFrom σ (k + 1) (j + 1)) j 1)) k 2 ((up (s_X1_copyFrom σ (k + 1) (j + 1)) k 1 ((s_X1_copyFrom σ (k + 1) (j + 1)) j 1)) j 2)) k 3 ((up (up (s_X1_copyFrom σ (k + 1) (j + 1)) k 1 ((s_X1_copyFrom σ (k + 1) (j + 1)) j 1)) k 2 ((up (s_X1_copyFrom σ (k + 1) (j + 1)) k 1 ((s_X1_copyFrom σ (k + 1) (j + 1)) j 1)) j 2)) j 3)) k 4 ((up (up (up (s_X1_copyFrom σ (k + 1) (j + 1)) k 1 ((s_X1_copyFrom σ (k + 1) (j + 1)) j 1)) k 2 ((up (s_X1_copyFrom σ (k + 1) (j + 1)) k 1 ((s_X1_copyFrom σ (k + 1) (j + 1)) j 1)) j 2)) k 3 ((up (up (s_X1_copyFrom σ (k + 1) (j + 1)) k 1 ((s_X1_copyFrom σ (k + 1) (j + 1)) j 1)) k 2 ((up (s_X1_copyFrom σ (k + 1) (j + 1)) k 1 ((s_X1_copyFrom σ (k + 1) (j + 1)) j 1)) j 2)) j 3)) j 4)) k 5 ((up (up (up (up (s_X1_copyFrom σ (k + 1) (j + 1)) k 1 ((s_X1_copyFrom σ (k + 1) (j + 1)) j 1)) k 2 ((up (s_X1_copyFrom σ (k + 1) (j + 1)) k 1 ((s_X1_copyFrom σ (k + 1) (j + 1)) j 1)) j 2)) k 3 ((up (up (s_X1_copyFrom σ (k + 1) (j + 1)) k 1 ((s_X1_copyFrom σ (k + 1) (j + 1)) j 1)) k 2 ((up (s_X1_copyFrom σ (k + 1) (j + 1)) k 1 ((s_X1_copyFrom σ (k + 1) (j + 1)) j 1)) j 2)) j 3)) k 4 ((up (up (up (s_X1_copyFrom σ (k + 1) (j + 1)) k 1 ((s_X1_copyFrom σ (k + 1) (j + 1)) j 1)) k 2 ((up (s_X1_copyFrom σ (k + 1) (j + 1)) k 1 ((s_X1_copyFrom σ (k + 1) (j + 1)) j 1)) j 2)) k 3 ((up (up (s_X1_copyFrom σ (k + 1) (j + 1)) k 1 ((s_X1_copyFrom σ (k + 1) (j + 1)) j 1)) k 2 ((up (s_X1_copyFrom σ (k + 1) (j + 1)) k 1 ((s_X1_copyFrom σ (k + 1) (j + 1)) j 1)) j 2)) j 3)) j 4)) j 5)) k 6 ((up (up (up (up (up (s_X1_copyFrom σ (k + 1) (j + 1)) k 1 ((s_X1_copyFrom σ (k + 1) (j + 1)) j 1)) k 2 ((up (s_X1_copyFrom σ (k + 1) (j + 1)) k 1 ((s_X1_copyFrom σ (k + 1) (j + 1)) j 1)) j 2)) k 3 ((up (up (s_X1_copyFrom σ (k + 1) (j + 1)) k 1 ((s_X1_copyFrom σ (k + 1) (j + 1)) j 1)) k 2 ((up (s_X1_copyFrom σ (k + 1) (j + 1)) k 1 ((s_X1_copyFrom σ (k + 1) (j + 1)) j 1)) j 2)) j 3)) k 4 ((up (up (up (s_X1_copyFrom σ (k + 1) (j + 1)) k 1 ((s_X1_copyFrom σ (k + 1) (j + 1)) j 1)) k 2 ((up (s_X1_copyFrom σ (k + 1) (j + 1)) k 1 ((s_X1_copyFrom σ (k + 1) (j + 1)) j 1)) j 2)) k 3 ((up (up (s_X1_copyFrom σ (k + 1) (j + 1)) k 1 ((s_X1_copyFrom σ (k + 1) (j + 1)) j 1)) k 2 ((up (s_X1_copyFrom σ (k + 1) (j + 1)) k 1 ((s_X1_copyFrom σ (k + 1) (j + 1)) j 1)) j 2)) j 3)) j 4)) k 5 ((up (up (up (up (s_X1_copyFrom σ (k + 1) (j + 1)) k 1 ((s_X1_copyFrom σ (k + 1) (j + 1)) j 1)) k 2 ((up (s_X1_copyFrom σ (k + 1) (j + 1)) k 1 ((s_X1_copyFrom σ (k + 1) (j + 1)) j 1)) j 2)) k 3 ((up (up (s_X1_copyFrom σ (k + 1) (j + 1)) k 1 ((s_X1_copyFrom σ (k + 1) (j + 1)) j 1)) k 2 ((up (s_X1_copyFrom σ (k + 1) (j + 1)) k 1 ((s_X1_copyFrom σ (k + 1) (j + 1)) j 1)) j 2)) j 3)) k 4 ((up (up (up (s_X1_copyFrom σ (k + 1) (j + 1)) k 1 ((s_X1_copyFrom σ (k + 1) (j + 1)) j 1)) k 2 ((up (s_X1_copyFrom σ (k + 1) (j + 1)) k 1 ((s_X1_copyFrom σ (k + 1) (j + 1)) j 1)) j 2)) k 3 ((up (up (s_X1_copyFrom σ (k + 1) (j + 1)) k 1 ((s_X1_copyFrom σ (k + 1) (j + 1)) j 1)) k 2 ((up (s_X1_copyFrom σ (k + 1) (j + 1)) k 1 ((s_X1_copyFrom σ (k + 1) (j + 1)) j 1)) j 2)) j 3)) j 4)) j 5)) j 6)) j 7)) j 8)) k 9 ((up (up (up (up (up (up (up (up (s_X1_copyFrom σ (k + 1) (j + 1)) k 1 ((s_X1_copyFrom σ (k + 1) (j + 1)) j 1)) k 2 ((up (s_X1_copyFrom σ (k + 1) (j + 1)) k 1 ((s_X1_copyFrom σ (k + 1) (j + 1)) j 1)) j 2)) k 3 ((up (up (s_X1_copyFrom σ (k + 1) (j + 1)) k 1 ((s_X1_copyFrom σ (k + 1) (j + 1)) j 1)) k 2 ((up (s_X1_copyFrom σ (k + 1) (j + 1)) k 1 ((s_X1_copyFrom σ (k + 1) (j + 1)) j 1)) j 2)) j 3)) k 4 ((up (up (up (s_X1_copyFrom σ (k + 1) (j + 1)) k 1 ((s_X1_copyFrom σ (k + 1) (j + 1)) j 1)) k 2 ((up (s_X1_copyFrom σ (k + 1) (j + 1)) k 1 ((s_X1_copyFrom σ (k + 1) (j + 1)) j 1)) j 2)) k 3 ((up (up (s_X1_copyFrom σ (k + 1) (j + 1)) k 1 ((s_X1_copyFrom σ (k + 1) (j + 1)) j 1)) k 2 ((up (s_X1_copyFrom σ (k + 1) (j + 1)) k 1 ((s_X1_copyFrom σ (k + 1) (j + 1)) j 1)) j 2)) j 3)) j 4)) k 5 ((up (up (up (up (s_X1_copyFrom σ (k + 1) (j + 1)) k 1 ((s_X1_copyFrom σ (k + 1) (j + 1)) j 1)) k 2 ((up (s_X1_copyFrom σ (k + 1) (j + 1)) k 1 ((s_X1_copyFrom σ (k + 1) (j + 1)) j 1)) j 2)) k 3 ((up (up (s_X1_copyFrom σ (k + 1) (j + 1)) k 1 ((s_X1_copyFrom σ (k + 1) (j + 1)) j 1)) k 2 ((up (s_X1_copyFrom σ (k + 1) (j + 1)) k 1 ((s_X1_copyFrom σ (k + 1) (j + 1)) j 1)) j 2)) j 3)) k 4 ((up (up (up (s_X1_copyFrom σ (k + 1) (j + 1)) k 1 ((s_X1_copyFrom σ (k + 1) (j + 1)) j 1)) k 2 ((up (s_X1_copyFrom σ (k + 1) (j + 1)) k 1 ((s_X1_copyFrom σ (k + 1) (j + 1)) j 1)) j 2)) k 3 ((up (up (s_X1_copyFrom σ (k + 1) (j + 1)) k 1 ((s_X1_copyFrom σ (k + 1) (j + 1)) j 1)) k 2 ((up (s_X1_copyFrom σ (k + 1) (j + 1)) k 1 ((s_X1_copyFrom σ (k + 1) (j + 1)) j 1)) j 2)) j 3)) j 4)) j 5)) k 6 ((up (up (up (up (up (s_X1_copyFrom σ (k + 1) (j + 1)) k 1 ((s_X1_copyFrom σ (k + 1) (j + 1)) j 1)) k 2 ((up (s_X1_copyFrom σ (k + 1) (j + 1)) k 1 ((s_X1_copyFrom σ (k + 1) (j + 1)) j 1)) j 2)) k 3 ((up (up (s_X1_copyFrom σ (k + 1) (j + 1)) k 1 ((s_X1_copyFrom σ (k + 1) (j + 1)) j 1)) k 2 ((up (s_X1_copyFrom σ (k + 1) (j + 1)) k 1 ((s_X1_copyFrom σ (k + 1) (j + 1)) j 1)) j 2)) j 3)) k 4 ((up (up (up (s_X1_copyFrom σ (k + 1) (j + 1)) k 1 ((s_X1_copyFrom σ (k + 1) (j + 1)) j 1)) k 2 ((up (s_X1_copyFrom σ (k + 1) (j + 1)) k 1 ((s_X1_copyFrom σ (k + 1) (j + 1)) j 1)) j 2)) k 3 ((up (up (s_X1_copyFrom σ (k + 1) (j + 1)) k 1 ((s_X1_copyFrom σ (k + 1) (j + 1)) j 1)) k 2 ((up (s_X1_copyFrom σ (k + 1) (j + 1)) k 1 ((s_X1_copyFrom σ (k + 1) (j + 1)) j 1)) j 2)) j 3)) j 4)) k 5 ((up (up (up (up (s_X1_copyFrom σ (k + 1) (j + 1)) k 1 ((s_X1_copyFrom σ (k + 1) (j + 1)) j 1)) k 2 ((up (s_X1_copyFrom σ (k + 1) (j + 1)) k 1 ((s_X1_copyFrom σ (k + 1) (j + 1)) j 1)) j 2)) k 3 ((up (up (s_X1_copyFrom σ (k + 1) (j + 1)) k 1 ((s_X1_copyFrom σ (k + 1) (j + 1)) j 1)) k 2 ((up (s_X1_copyFrom σ (k + 1) (j + 1)) k 1 ((s_X1_copyFrom σ (k + 1) (j + 1)) j 1)) j 2)) j 3)) k 4 ((up (up (up (s_X1_copyFrom σ (k + 1) (j + 1)) k 1 ((s_X1_copyFrom σ (k + 1) (j + 1)) j 1)) k 2 ((up (s_X1_copyFrom σ (k + 1) (j + 1)) k 1 ((s_X1_copyFrom σ (k + 1) (j + 1)) j 1)) j 2)) k 3 ((up (up (s_X1_copyFrom σ (k + 1) (j + 1)) k 1 ((s_X1_copyFrom σ (k + 1) (j + 1)) j 1)) k 2 ((up (s_X1_copyFrom σ (k + 1) (j + 1)) k 1 ((s_X1_copyFrom σ (k + 1) (j + 1)) j 1)) j 2)) j 3)) j 4)) j 5)) j 6)) k 7 ((up (up (up (up (up (up (s_X1_copyFrom σ (k + 1) (j + 1)) k 1 ((s_X1_copyFrom σ (k + 1) (j + 1)) j 1)) k 2 ((up (s_X1_copyFrom σ (k + 1) (j + 1)) k 1 ((s_X1_copyFrom σ (k + 1) (j + 1)) j 1)) j 2)) k 3 ((up (up (s_X1_copyFrom σ (k + 1) (j + 1)) k 1 ((s_X1_copyFrom σ (k + 1) (j + 1)) j 1)) k 2 ((up (s_X1_copyFrom σ (k + 1) (j + 1)) k 1 ((s_X1_copyFrom σ (k + 1) (j + 1)) j 1)) j 2)) j 3)) k 4 ((up (up (up (s_X1_copyFrom σ (k + 1) (j + 1)) k 1 ((s_X1_copyFrom σ (k + 1) (j + 1)) j 1)) k 2 ((up (s_X1_copyFrom σ (k + 1) (j + 1)) k 1 ((s_X1_copyFrom σ (k + 1) (j + 1)) j 1)) j 2)) k 3 ((up (up (s_X1_copyFrom σ (k + 1) (j + 1)) k 1 ((s_X1_copyFrom σ (k + 1) (j + 1)) j 1)) k 2 ((up (s_X1_copyFrom σ (k + 1) (j + 1)) k 1 ((s_X1_copyFrom σ (k + 1) (j + 1)) j 1)) j 2)) j 3)) j 4)) k 5 ((up (up (up (up (s_X1_copyFrom σ (k + 1) (j + 1)) k 1 ((s_X1_copyFrom σ (k + 1) (j + 1)) j 1)) k 2 ((up (s_X1_copyFrom σ (k + 1) (j + 1)) k 1 ((s_X1_copyFrom σ (k + 1) (j + 1)) j 1)) j 2)) k 3 ((up (up (s_X1_copyFrom σ (k + 1) (j + 1)) k 1 ((s_X1_copyFrom σ (k + 1) (j + 1)) j 1)) k 2 ((up (s_X1_copyFrom σ (k + 1) (j + 1)) k 1 ((s_X1_copyFrom σ (k + 1) (j + 1)) j 1)) j 2)) j 3)) k 4 ((up (up (up (s_X1_copyFrom σ (k + 1) (j + 1)) k 1 ((s_X1_copyFrom σ (k + 1) (j + 1)) j 1)) k 2 ((up (s_X1_copyFrom σ (k + 1) (j + 1)) k 1 ((s_X1_copyFrom σ (k + 1) (j + 1)) j 1)) j 2)) k 3 ((up (up (s_X1_copyFrom σ (k + 1) (j + 1)) k 1 ((s_X1_copyFrom σ (k + 1) (j + 1)) j 1)) k 2 ((up (s_X1_copyFrom σ (k + 1) (j + 1)) k 1 ((s_X1_copyFrom σ (k + 1) (j + 1)) j 1)) j 2)) j 3)) j 4)) j 5)) k 6 ((up (up (up (up (up (s_X1_copyFrom σ (k + 1) (j + 1)) k 1 ((s_X1_copyFrom σ (k + 1) (j + 1)) j 1)) k 2 ((up (s_X1_copyFrom σ (k + 1) (j + 1)) k 1 ((s_X1_copyFrom σ (k + 1) (j + 1)) j 1)) j 2)) k 3 ((up (up (s_X1_copyFrom σ (k + 1) (j + 1)) k 1 ((s_X1_copyFrom σ (k + 1) (j + 1)) j 1)) k 2 ((up (s_X1_copyFrom σ (k + 1) (j + 1)) k 1 ((s_X1_copyFrom σ (k + 1) (j + 1)) j 1)) j 2)) j 3)) k 4 ((up (up (up (s_X1_copyFrom σ (k + 1) (j + 1)) k 1 ((s_X1_copyFrom σ (k + 1) (j + 1)) j 1)) k 2 ((up (s_X1_copyFrom σ (k + 1) (j + 1)) k 1 ((s_X1_copyFrom σ (k + 1) (j + 1)) j 1)) j 2)) k 3 ((up (up (s_X1_copyFrom σ (k + 1) (j + 1)) k 1 ((s_X1_copyFrom σ (k + 1) (j + 1)) j 1)) k 2 ((up (s_X1_copyFrom σ (k + 1) (j + 1)) k 1 ((s_X1_copyFrom σ (k + 1) (j + 1)) j 1)) j 2)) j 3)) j 4)) k 5 ((up (up (up (up (s_X1_copyFrom σ (k + 1) (j + 1)) k 1 ((s_X1_copyFrom σ (k + 1) (j + 1)) j 1)) k 2 ((up (s_X1_copyFrom σ (k + 1) (j + 1)) k 1 ((s_X1_copyFrom σ (k + 1) (j + 1)) j 1)) j 2)) k 3 ((up (up (s_X1_copyFrom σ (k + 1) (j + 1)) k 1 ((s_X1_copyFrom σ (k + 1) (j + 1)) j 1)) k 2 ((up (s_X1_copyFrom σ (k + 1) (j + 1)) k 1 ((s_X1_copyFrom σ (k + 1) (j + 1)) j 1)) j 2)) j 3)) k 4 ((up (up (up (s_X1_copyFrom σ (k + 1) (j + 1)) k 1 ((s_X1_copyFrom σ (k + 1) (j + 1)) j 1)) k 2 ((up (s_X1_copyFrom σ (k + 1) (j + 1)) k 1 ((s_X1_copyFrom σ (k + 1) (j + 1)) j 1)) j 2)) k 3 ((up (up (s_X1_copyFrom σ (k + 1) (j + 1)) k 1 ((s_X1_copyFrom σ (k + 1) (j + 1)) j 1)) k 2 ((up (s_X1_copyFrom σ (k + 1) (j + 1)) k 1 ((s_X1_copyFrom σ (k + 1) (j + 1)) j 1)) j 2)) j 3)) j 4)) j 5)) j 6)) j 7)) k 8 ((up (up (up (up (up (up (up (s_X1_copyFrom σ (k + 1) (j + 1)) k 1 ((s_X1_copyFrom σ (k + 1) (j + 1)) j 1)) k 2 ((up (s_X1_copyFrom σ (k + 1) (j + 1)) k 1 ((s_X1_copyFrom σ (k + 1) (j + 1)) j 1)) j 2)) k 3 ((up (up (s_X1_copyFrom σ (k + 1) (j + 1)) k 1 ((s_X1_copyFrom σ (k + 1) (j + 1)) j 1)) k 2 ((up (s_X1_copyFrom σ (k + 1) (j + 1)) k 1 ((s_X1_copyFrom σ (k + 1) (j + 1)) j 1)) j 2)) j 3)) k 4 ((up (up (up (s_X1_copyFrom σ (k + 1) (j + 1)) k 1 ((s_X1_copyFrom σ (k + 1) (j + 1)) j 1)) k 2 ((up (s_X1_copyFrom σ (k + 1) (j + 1)) k 1 ((s_X1_copyFrom σ (k + 1) (j + 1)) j 1)) j 2)) k 3 ((up (up (s_X1_copyFrom σ (k + 1) (j + 1)) k 1 ((s_X1_copyFrom σ (k + 1) (j + 1)) j 1)) k 2 ((up (s_X1_copyFrom σ (k + 1) (j + 1)) k 1 ((s_X1_copyFrom σ (k + 1) (j + 1)) j 1)) j 2)) j 3)) j 4)) k 5 ((up (up (up (up (s_X1_copyFrom σ (k + 1) (j + 1)) k 1 ((s_X1_copyFrom σ (k + 1) (j + 1)) j 1)) k 2 ((up (s_X1_copyFrom σ (k + 1) (j + 1)) k 1 ((s_X1_copyFrom σ (k + 1) (j + 1)) j 1)) j 2)) k 3 ((up (up (s_X1_copyFrom σ (k + 1) (j + 1)) k 1 ((s_X1_copyFrom σ (k + 1) (j + 1)) j 1)) k 2 ((up (s_X1_copyFrom σ (k + 1) (j + 1)) k 1 ((s_X1_copyFrom σ (k + 1) (j + 1)) j 1)) j 2)) j 3)) k 4 ((up (up (up (s_X1_copyFrom σ (k + 1) (j + 1)) k 1 ((s_X1_copyFrom σ (k + 1) (j + 1)) j 1)) k 2 ((up (s_X1_copyFrom σ (k + 1) (j + 1)) k 1 ((s_X1_copyFrom σ (k + 1) (j + 1)) j 1)) j 2)) k 3 ((up (up (s_X1_copyFrom σ (k + 1) (j + 1)) k 1 ((s_X1_copyFrom σ (k + 1) (j + 1)) j 1)) k 2 ((up (s_X1_copyFrom σ (k + 1) (j + 1)) k 1 ((s_X1_copyFrom σ (k + 1) (j + 1)) j 1)) j 2)) j 3)) j 4)) j 5)) k 6 ((up (up (up (up (up (s_X1_copyFrom σ (k + 1) (j + 1)) k 1 ((s_X1_copyFrom σ (k + 1) (j + 1)) j 1)) k 2 ((up (s_X1_copyFrom σ (k + 1) (j + 1)) k 1 ((s_X1_copyFrom σ (k + 1) (j + 1)) j 1)) j 2)) k 3 ((up (up (s_X1_copyFrom σ (k + 1) (j + 1)) k 1 ((s_X1_copyFrom σ (k + 1) (j + 1)) j 1)) k 2 ((up (s_X1_copyFrom σ (k + 1) (j + 1)) k 1 ((s_X1_copyFrom σ (k + 1) (j + 1)) j 1)) j 2)) j 3)) k 4 ((up (up (up (s_X1_copyFrom σ (k + 1) (j + 1)) k 1 ((s_X1_copyFrom σ (k + 1) (j + 1)) j 1)) k 2 ((up (s_X1_copyFrom σ (k + 1) (j + 1)) k 1 ((s_X1_copyFrom σ (k + 1) (j + 1)) j 1)) j 2)) k 3 ((up (up (s_X1_copyFrom σ (k + 1) (j + 1)) k 1 ((s_X1_copyFrom σ (k + 1) (j + 1)) j 1)) k 2 ((up (s_X1_copyFrom σ (k + 1) (j + 1)) k 1 ((s_X1_copyFrom σ (k + 1) (j + 1)) j 1)) j 2)) j 3)) j 4)) k 5 ((up (up (up (up (s_X1_copyFrom σ (k + 1) (j + 1)) k 1 ((s_X1_copyFrom σ (k + 1) (j + 1)) j 1)) k 2 ((up (s_X1_copyFrom σ (k + 1) (j + 1)) k 1 ((s_X1_copyFrom σ (k + 1) (j + 1)) j 1)) j 2)) k 3 ((up (up (s_X1_copyFrom σ (k + 1) (j + 1)) k 1 ((s_X1_copyFrom σ (k + 1) (j + 1)) j 1)) k 2 ((up (s_X1_copyFrom σ (k + 1) (j + 1)) k 1 ((s_X1_copyFrom σ (k + 1) (j + 1)) j 1)) j 2)) j 3)) k 4 ((up (up (up (s_X1_copyFrom σ (k + 1) (j + 1)) k 1 ((s_X1_copyFrom σ (k + 1) (j + 1)) j 1)) k 2 ((up (s_X1_copyFrom σ (k + 1) (j + 1)) k 1 ((s_X1_copyFrom σ (k + 1) (j + 1)) j 1)) j 2)) k 3 ((up (up (s_X1_copyFrom σ (k + 1) (j + 1)) k 1 ((s_X1_copyFrom σ (k + 1) (j + 1)) j 1)) k 2 ((up (s_X1_copyFrom σ (k + 1) (j + 1)) k 1 ((s_X1_copyFrom σ (k + 1) (j + 1)) j 1)) j 2)) j 3)) j 4)) j 5)) j 6)) k 7 ((up (up (up (up (up (up (s_X1_copyFrom σ (k + 1) (j + 1)) k 1 ((s_X1_copyFrom σ (k + 1) (j + 1)) j 1)) k 2 ((up (s_X1_copyFrom σ (k + 1) (j + 1)) k 1 ((s_X1_copyFrom σ (k + 1) (j + 1)) j 1)) j 2)) k 3 ((up (up (s_X1_copyFrom σ (k + 1) (j + 1)) k 1 ((s_X1_copyFrom σ (k + 1) (j + 1)) j 1)) k 2 ((up (s_X1_copyFrom σ (k + 1) (j + 1)) k 1 ((s_X1_copyFrom σ (k + 1) (j + 1)) j 1)) j 2)) j 3)) k 4 ((up (up (up (s_X1_copyFrom σ (k + 1) (j + 1)) k 1 ((s_X1_copyFrom σ (k + 1) (j + 1)) j 1)) k 2 ((up (s_X1_copyFrom σ (k + 1) (j + 1)) k 1 ((s_X1_copyFrom σ (k + 1) (j + 1)) j 1)) j 2)) k 3 ((up (up (s_X1_copyFrom σ (k + 1) (j + 1)) k 1 ((s_X1_copyFrom σ (k + 1) (j + 1)) j 1)) k 2 ((up (s_X1_copyFrom σ (k + 1) (j + 1)) k 1 ((s_X1_copyFrom σ (k + 1) (j + 1)) j 1)) j 2)) j 3)) j 4)) k 5 ((up (up (up (up (s_X1_copyFrom σ (k + 1) (j + 1)) k 1 ((s_X1_copyFrom σ (k + 1) (j + 1)) j 1)) k 2 ((up (s_X1_copyFrom σ (k + 1) (j + 1)) k 1 ((s_X1_copyFrom σ (k + 1) (j + 1)) j 1)) j 2)) k 3 ((up (up (s_X1_copyFrom σ (k + 1) (j + 1)) k 1 ((s_X1_copyFrom σ (k + 1) (j + 1)) j 1)) k 2 ((up (s_X1_copyFrom σ (k + 1) (j + 1)) k 1 ((s_X1_copyFrom σ (k + 1) (j + 1)) j 1)) j 2)) j 3)) k 4 ((up (up (up (s_X1_copyFrom σ (k + 1) (j + 1)) k 1 ((s_X1_copyFrom σ (k + 1) (j + 1)) j 1)) k 2 ((up (s_X1_copyFrom σ (k + 1) (j + 1)) k 1 ((s_X1_copyFrom σ (k + 1) (j + 1)) j 1)) j 2)) k 3 ((up (up (s_X1_copyFrom σ (k + 1) (j + 1)) k 1 ((s_X1_copyFrom σ (k + 1) (j + 1)) j 1)) k 2 ((up (s_X1_copyFrom σ (k + 1) (j + 1)) k 1 ((s_X1_copyFrom σ (k + 1) (j + 1)) j 1)) j 2)) j 3)) j 4)) j 5)) k 6 ((up (up (up (up (up (s_X1_copyFrom σ (k + 1) (j + 1)) k 1 ((s_X1_copyFrom σ (k + 1) (j + 1)) j 1)) k 2 ((up (s_X1_copyFrom σ (k + 1) (j + 1)) k 1 ((s_X1_copyFrom σ (k + 1) (j + 1)) j 1)) j 2)) k 3 ((up (up (s_X1_copyFrom σ (k + 1) (j + 1)) k 1 ((s_X1_copyFrom σ (k + 1) (j + 1)) j 1)) k 2 ((up (s_X1_copyFrom σ (k + 1) (j + 1)) k 1 ((s_X1_copyFrom σ (k + 1) (j + 1)) j 1)) j 2)) j 3)) k 4 ((up (up (up (s_X1_copyFrom σ (k + 1) (j + 1)) k 1 ((s_X1_copyFrom σ (k + 1) (j + 1)) j 1)) k 2 ((up (s_X1_copyFrom σ (k + 1) (j + 1)) k 1 ((s_X1_copyFrom σ (k + 1) (j + 1)) j 1)) j 2)) k 3 ((up (up (s_X1_copyFrom σ (k + 1) (j + 1)) k 1 ((s_X1_copyFrom σ (k + 1) (j + 1)) j 1)) k 2 ((up (s_X1_copyFrom σ (k + 1) (j + 1)) k 1 ((s_X1_copyFrom σ (k + 1) (j + 1)) j 1)) j 2)) j 3)) j 4)) k 5 ((up (up (up (up (s_X1_copyFrom σ (k + 1) (j + 1)) k 1 ((s_X1_copyFrom σ (k + 1) (j + 1)) j 1)) k 2 ((up (s_X1_copyFrom σ (k + 1) (j + 1)) k 1 ((s_X1_copyFrom σ (k + 1) (j + 1)) j 1)) j 2)) k 3 ((up (up (s_X1_copyFrom σ (k + 1) (j + 1)) k 1 ((s_X1_copyFrom σ (k + 1) (j + 1)) j 1)) k 2 ((up (s_X1_copyFrom σ (k + 1) (j + 1)) k 1 ((s_X1_copyFrom σ (k + 1) (j + 1)) j 1)) j 2)) j 3)) k 4 ((up (up (up (s_X1_copyFrom σ (k + 1) (j + 1)) k 1 ((s_X1_copyFrom σ (k + 1) (j + 1)) j 1)) k 2 ((up (s_X1_copyFrom σ (k + 1) (j + 1)) k 1 ((s_X1_copyFrom σ (k + 1) (j + 1)) j 1)) j 2)) k 3 ((up (up (s_X1_copyFrom σ (k + 1) (j + 1)) k 1 ((s_X1_copyFrom σ (k + 1) (j + 1)) j 1)) k 2 ((up (s_X1_copyFrom σ (k + 1) (j + 1)) k 1 ((s_X1_copyFrom σ (k + 1) (j + 1)) j 1)) j 2)) j 3)) j 4)) j 5)) j 6)) j 7)) j 8)) j 9)) k 10 ((up (up (up (up (up (up (up (up (up (s_X1_copyFrom σ (k + 1) (j + 1)) k 1 ((s_X1_copyFrom σ (k + 1) (j + 1)) j 1)) k 2 ((up (s_X1_copyFrom σ (k + 1) (j + 1)) k 1 ((s_X1_copyFrom σ (k + 1) (j + 1)) j 1)) j 2)) k 3 ((up (up (s_X1_copyFrom σ (k + 1) (j + 1)) k 1 ((s_X1_copyFrom σ (k + 1) (j + 1)) j 1)) k 2 ((up (s_X1_copyFrom σ (k + 1) (j + 1)) k 1 ((s_X1_copyFrom σ (k + 1) (j + 1)) j 1)) j 2)) j 3)) k 4 ((up (up (up (s_X1_copyFrom σ (k + 1) (j + 1)) k 1 ((s_X1_copyFrom σ (k + 1) (j + 1)) j 1)) k 2 ((up (s_X1_copyFrom σ (k + 1) (j + 1)) k 1 ((s_X1_copyFrom σ (k + 1) (j + 1)) j 1)) j 2)) k 3 ((up (up (s_X1_copyFrom σ (k + 1) (j + 1)) k 1 ((s_X1_copyFrom σ (k + 1) (j + 1)) j 1)) k 2 ((up (s_X1_copyFrom σ (k + 1) (j + 1)) k 1 ((s_X1_copyFrom σ (k + 1) (j + 1)) j 1)) j 2)) j 3)) j 4)) k 5 ((up (up (up (up (s_X1_copyFrom σ (k + 1) (j + 1)) k 1 ((s_X1_copyFrom σ (k + 1) (j + 1)) j 1)) k 2 ((up (s_X1_copyFrom σ (k + 1) (j + 1)) k 1 ((s_X1_copyFrom σ (k + 1) (j + 1)) j 1)) j 2)) k 3 ((up (up (s_X1_copyFrom σ (k + 1) (j + 1)) k 1 ((s_X1_copyFrom σ (k + 1) (j + 1)) j 1)) k 2 ((up (s_X1_copyFrom σ (k + 1) (j + 1)) k 1 ((s_X1_copyFrom σ (k + 1) (j + 1)) j 1)) j 2)) j 3)) k 4 ((up (up (up (s_X1_copyFrom σ (k + 1) (j + 1)) k 1 ((s_X1_copyFrom σ (k + 1) (j + 1)) j 1)) k 2 ((up (s_X1_copyFrom σ (k + 1) (j + 1)) k 1 ((s_X1_copyFrom σ (k + 1) (j + 1)) j 1)) j 2)) k 3 ((up (up (s_X1_copyFrom σ (k + 1) (j + 1)) k 1 ((s_X1_copyFrom σ (k + 1) (j + 1)) j 1)) k 2 ((up (s_X1_copyFrom σ (k + 1) (j + 1)) k 1 ((s_X1_copyFrom σ (k + 1) (j + 1)) j 1)) j 2)) j 3)) j 4)) j 5)) k 6 ((up (up (up (up (up (s_X1_copyFrom σ (k + 1) (j + 1)) k 1 ((s_X1_copyFrom σ (k + 1) (j + 1)) j 1)) k 2 ((up (s_X1_copyFrom σ (k + 1) (j + 1)) k 1 ((s_X1_copyFrom σ (k + 1) (j + 1)) j 1)) j 2)) k 3 ((up (up (s_X1_copyFrom σ (k + 1) (j + 1)) k 1 ((s_X1_copyFrom σ (k + 1) (j + 1)) j 1)) k 2 ((up (s_X1_copyFrom σ (k + 1) (j + 1)) k 1 ((s_X1_copyFrom σ (k + 1) (j + 1)) j 1)) j 2)) j 3)) k 4 ((up (up (up (s_X1_copyFrom σ (k + 1) (j + 1)) k 1 ((s_X1_copyFrom σ (k + 1) (j + 1)) j 1)) k 2 ((up (s_X1_copyFrom σ (k + 1) (j + 1)) k 1 ((s_X1_copyFrom σ (k + 1) (j + 1)) j 1)) j 2)) k 3 ((up (up (s_X1_copyFrom σ (k + 1) (j + 1)) k 1 ((s_X1_copyFrom σ (k + 1) (j + 1)) j 1)) k 2 ((up (s_X1_copyFrom σ (k + 1) (j + 1)) k 1 ((s_X1_copyFrom σ (k + 1) (j + 1)) j 1)) j 2)) j 3)) j 4)) k 5 ((up (up (up (up (s_X1_copyFrom σ (k + 1) (j + 1)) k 1 ((s_X1_copyFrom σ (k + 1) (j + 1)) j 1)) k 2 ((up (s_X1_copyFrom σ (k + 1) (j + 1)) k 1 ((s_X1_copyFrom σ (k + 1) (j + 1)) j 1)) j 2)) k 3 ((up (up (s_X1_copyFrom σ (k + 1) (j + 1)) k 1 ((s_X1_copyFrom σ (k + 1) (j + 1)) j 1)) k 2 ((up (s_X1_copyFrom σ (k + 1) (j + 1)) k 1 ((s_X1_copyFrom σ (k + 1) (j + 1)) j 1)) j 2)) j 3)) k 4 ((up (up (up (s_X1_copyFrom σ (k + 1) (j + 1)) k 1 ((s_X1_copyFrom σ (k + 1) (j + 1)) j 1)) k 2 ((up (s_X1_copyFrom σ (k + 1) (j + 1)) k 1 ((s_X1_copyFrom σ (k + 1) (j + 1)) j 1)) j 2)) k 3 ((up (up (s_X1_copyFrom σ (k + 1) (j + 1)) k 1 ((s_X1_copyFrom σ (k + 1) (j + 1)) j 1)) k 2 ((up (s_X1_copyFrom σ (k + 1) (j + 1)) k 1 ((s_X1_copyFrom σ (k + 1) (j + 1)) j 1)) j 2)) j 3)) j 4)) j 5)) j 6)) k 7 ((up (up (up (up (up (up (s_X1_copyFrom σ (k + 1) (j + 1)) k 1 ((s_X1_copyFrom σ (k + 1) (j + 1)) j 1)) k 2 ((up (s_X1_copyFrom σ (k + 1) (j + 1)) k 1 ((s_X1_copyFrom σ (k + 1) (j + 1)) j 1)) j 2)) k 3 ((up (up (s_X1_copyFrom σ (k + 1) (j + 1)) k 1 ((s_X1_copyFrom σ (k + 1) (j + 1)) j 1)) k 2 ((up (s_X1_copyFrom σ (k + 1) (j + 1)) k 1 ((s_X1_copyFrom σ (k + 1) (j + 1)) j 1)) j 2)) j 3)) k 4 ((up (up (up (s_X1_copyFrom σ (k + 1) (j + 1)) k 1 ((s_X1_copyFrom σ (k + 1) (j + 1)) j 1)) k 2 ((up (s_X1_copyFrom σ (k + 1) (j + 1)) k 1 ((s_X1_copyFrom σ (k + 1) (j + 1)) j 1)) j 2)) k 3 ((up (up (s_X1_copyFrom σ (k + 1) (j + 1)) k 1 ((s_X1_copyFrom σ (k + 1) (j + 1)) j 1)) k 2 ((up (s_X1_copyFrom σ (k + 1) (j + 1)) k 1 ((s_X1_copyFrom σ (k + 1) (j + 1)) j 1)) j 2)) j 3)) j 4)) k 5 ((up (up (up (up (s_X1_copyFrom σ (k + 1) (j + 1)) k 1 ((s_X1_copyFrom σ (k + 1) (j + 1)) j 1)) k 2 ((up (s_X1_copyFrom σ (k + 1) (j + 1)) k 1 ((s_X1_copyFrom σ (k + 1) (j + 1)) j 1)) j 2)) k 3 ((up (up (s_X1_copyFrom σ (k + 1) (j + 1)) k 1 ((s_X1_copyFrom σ (k + 1) (j + 1)) j 1)) k 2 ((up (s_X1_copyFrom σ (k + 1) (j + 1)) k 1 ((s_X1_copyFrom σ (k + 1) (j + 1)) j 1)) j 2)) j 3)) k 4 ((up (up (up (s_X1_copyFrom σ (k + 1) (j + 1)) k 1 ((s_X1_copyFrom σ (k + 1) (j + 1)) j 1)) k 2 ((up (s_X1_copyFrom σ (k + 1) (j + 1)) k 1 ((s_X1_copyFrom σ (k + 1) (j + 1)) j 1)) j 2)) k 3 ((up (up (s_X1_copyFrom σ (k + 1) (j + 1)) k 1 ((s_X1_copyFrom σ (k + 1) (j + 1)) j 1)) k 2 ((up (s_X1_copyFrom σ (k + 1) (j + 1)) k 1 ((s_X1_copyFrom σ (k + 1) (j + 1)) j 1)) j 2)) j 3)) j 4)) j 5)) k 6 ((up (up (up (up (up (s_X1_copyFrom σ (k + 1) (j + 1)) k 1 ((s_X1_copyFrom σ (k + 1) (j + 1)) j 1)) k 2 ((up (s_X1_copyFrom σ (k + 1) (j + 1)) k 1 ((s_X1_copyFrom σ (k + 1) (j + 1)) j 1)) j 2)) k 3 ((up (up (s_X1_copyFrom σ (k + 1) (j + 1)) k 1 ((s_X1_copyFrom σ (k + 1) (j + 1)) j 1)) k 2 ((up (s_X1_copyFrom σ (k + 1) (j + 1)) k 1 ((s_X1_copyFrom σ (k + 1) (j + 1)) j 1)) j 2)) j 3)) k 4 ((up (up (up (s_X1_copyFrom σ (k + 1) (j + 1)) k 1 ((s_X1_copyFrom σ (k + 1) (j + 1)) j 1)) k 2 ((up (s_X1_copyFrom σ (k + 1) (j + 1)) k 1 ((s_X1_copyFrom σ (k + 1) (j + 1)) j 1)) j 2)) k 3 ((up (up (s_X1_copyFrom σ (k + 1) (j + 1)) k 1 ((s_X1_copyFrom σ (k + 1) (j + 1)) j 1)) k 2 ((up (s_X1_copyFrom σ (k + 1) (j + 1)) k 1 ((s_X1_copyFrom σ (k + 1) (j + 1)) j 1)) j 2)) j 3)) j 4)) k 5 ((up (up (up (up (s_X1_copyFrom σ (k + 1) (j + 1)) k 1 ((s_X1_copyFrom σ (k + 1) (j + 1)) j 1)) k 2 ((up (s_X1_copyFrom σ (k + 1) (j + 1)) k 1 ((s_X1_copyFrom σ (k + 1) (j + 1)) j 1)) j 2)) k 3 ((up (up (s_X1_copyFrom σ (k + 1) (j + 1)) k 1 ((s_X1_copyFrom σ (k + 1) (j + 1)) j 1)) k 2 ((up (s_X1_copyFrom σ (k + 1) (j + 1)) k 1 ((s_X1_copyFrom σ (k + 1) (j + 1)) j 1)) j 2)) j 3)) k 4 ((up (up (up (s_X1_copyFrom σ (k + 1) (j + 1)) k 1 ((s_X1_copyFrom σ (k + 1) (j + 1)) j 1)) k 2 ((up (s_X1_copyFrom σ (k + 1) (j + 1)) k 1 ((s_X1_copyFrom σ (k + 1) (j + 1)) j 1)) j 2)) k 3 ((up (up (s_X1_copyFrom σ (k + 1) (j + 1)) k 1 ((s_X1_copyFrom σ (k + 1) (j + 1)) j 1)) k 2 ((up (s_X1_copyFrom σ (k + 1) (j + 1)) k 1 ((s_X1_copyFrom σ (k + 1) (j + 1)) j 1)) j 2)) j 3)) j 4)) j 5)) j 6)) j 7)) k 8 ((up (up (up (up (up (up (up (s_X1_copyFrom σ (k + 1) (j + 1)) k 1 ((s_X1_copyFrom σ (k + 1) (j + 1)) j 1)) k 2 ((up (s_X1_copyFrom σ (k + 1) (j + 1)) k 1 ((s_X1_copyFrom σ (k + 1) (j + 1)) j 1)) j 2)) k 3 ((up (up (s_X1_copyFrom σ (k + 1) (j + 1)) k 1 ((s_X1_copyFrom σ (k + 1) (j + 1)) j 1)) k 2 ((up (s_X1_copyFrom σ (k + 1) (j + 1)) k 1 ((s_X1_copyFrom σ (k + 1) (j + 1)) j 1)) j 2)) j 3)) k 4 ((up (up (up (s_X1_copyFrom σ (k + 1) (j + 1)) k 1 ((s_X1_copyFrom σ (k + 1) (j + 1)) j 1)) k 2 ((up (s_X1_copyFrom σ (k + 1) (j + 1)) k 1 ((s_X1_copyFrom σ (k + 1) (j + 1)) j 1)) j 2)) k 3 ((up (up (s_X1_copyFrom σ (k + 1) (j + 1)) k 1 ((s_X1_copyFrom σ (k + 1) (j + 1)) j 1)) k 2 ((up (s_X1_copyFrom σ (k + 1) (j + 1)) k 1 ((s_X1_copyFrom σ (k + 1) (j + 1)) j 1)) j 2)) j 3)) j 4)) k 5 ((up (up (up (up (s_X1_copyFrom σ (k + 1) (j + 1)) k 1 ((s_X1_copyFrom σ (k + 1) (j + 1)) j 1)) k 2 ((up (s_X1_copyFrom σ (k + 1) (j + 1)) k 1 ((s_X1_copyFrom σ (k + 1) (j + 1)) j 1)) j 2)) k 3 ((up (up (s_X1_copyFrom σ (k + 1) (j + 1)) k 1 ((s_X1_copyFrom σ (k + 1) (j + 1)) j 1)) k 2 ((up (s_X1_copyFrom σ (k + 1) (j + 1)) k 1 ((s_X1_copyFrom σ (k + 1) (j + 1)) j 1)) j 2)) j 3)) k 4 ((up (up (up (s_X1_copyFrom σ (k + 1) (j + 1)) k 1 ((s_X1_copyFrom σ (k + 1) (j + 1)) j 1)) k 2 ((up (s_X1_copyFrom σ (k + 1) (j + 1)) k 1 ((s_X1_copyFrom σ (k + 1) (j + 1)) j 1)) j 2)) k 3 ((up (up (s_X1_copyFrom σ (k + 1) (j + 1)) k 1 ((s_X1_copyFrom σ (k + 1) (j + 1)) j 1)) k 2 ((up (s_X1_copyFrom σ (k + 1) (j + 1)) k 1 ((s_X1_copyFrom σ (k + 1) (j + 1)) j 1)) j 2)) j 3)) j 4)) j 5)) k 6 ((up (up (up (up (up (s_X1_copyFrom σ (k + 1) (j + 1)) k 1 ((s_X1_copyFrom σ (k + 1) (j + 1)) j 1)) k 2 ((up (s_X1_copyFrom σ (k + 1) (j + 1)) k 1 ((s_X1_copyFrom σ (k + 1) (j + 1)) j 1)) j 2)) k 3 ((up (up (s_X1_copyFrom σ (k + 1) (j + 1)) k 1 ((s_X1_copyFrom σ (k + 1) (j + 1)) j 1)) k 2 ((up (s_X1_copyFrom σ (k + 1) (j + 1)) k 1 ((s_X1_copyFrom σ (k + 1) (j + 1)) j 1)) j 2)) j 3)) k 4 ((up (up (up (s_X1_copyFrom σ (k + 1) (j + 1)) k 1 ((s_X1_copyFrom σ (k + 1) (j + 1)) j 1)) k 2 ((up (s_X1_copyFrom σ (k + 1) (j + 1)) k 1 ((s_X1_copyFrom σ (k + 1) (j + 1)) j 1)) j 2)) k 3 ((up (up (s_X1_copyFrom σ (k + 1) (j + 1)) k 1 ((s_X1_copyFrom σ (k + 1) (j + 1)) j 1)) k 2 ((up (s_X1_copyFrom σ (k + 1) (j + 1)) k 1 ((s_X1_copyFrom σ (k + 1) (j + 1)) j 1)) j 2)) j 3)) j 4)) k 5 ((up (up (up (up (s_X1_copyFrom σ (k + 1) (j + 1)) k 1 ((s_X1_copyFrom σ (k + 1) (j + 1)) j 1)) k 2 ((up (s_X1_copyFrom σ (k + 1) (j + 1)) k 1 ((s_X1_copyFrom σ (k + 1) (j + 1)) j 1)) j 2)) k 3 ((up (up (s_X1_copyFrom σ (k + 1) (j + 1)) k 1 ((s_X1_copyFrom σ (k + 1) (j + 1)) j 1)) k 2 ((up (s_X1_copyFrom σ (k + 1) (j + 1)) k 1 ((s_X1_copyFrom σ (k + 1) (j + 1)) j 1)) j 2)) j 3)) k 4 ((up (up (up (s_X1_copyFrom σ (k + 1) (j + 1)) k 1 ((s_X1_copyFrom σ (k + 1) (j + 1)) j 1)) k 2 ((up (s_X1_copyFrom σ (k + 1) (j + 1)) k 1 ((s_X1_copyFrom σ (k + 1) (j + 1)) j 1)) j 2)) k 3 ((up (up (s_X1_copyFrom σ (k + 1) (j + 1)) k 1 ((s_X1_copyFrom σ (k + 1) (j + 1)) j 1)) k 2 ((up (s_X1_copyFrom σ (k + 1) (j + 1)) k 1 ((s_X1_copyFrom σ (k + 1) (j + 1)) j 1)) j 2)) j 3)) j 4)) j 5)) j 6)) k 7 ((up (up (up (up (up (up (s_X1_copyFrom σ (k + 1) (j + 1)) k 1 ((s_X1_copyFrom σ (k + 1) (j + 1)) j 1)) k 2 ((up (s_X1_copyFrom σ (k + 1) (j + 1)) k 1 ((s_X1_copyFrom σ (k + 1) (j + 1)) j 1)) j 2)) k 3 ((up (up (s_X1_copyFrom σ (k + 1) (j + 1)) k 1 ((s_X1_copyFrom σ (k + 1) (j + 1)) j 1)) k 2 ((up (s_X1_copyFrom σ (k + 1) (j + 1)) k 1 ((s_X1_copyFrom σ (k + 1) (j + 1)) j 1)) j 2)) j 3)) k 4 ((up (up (up (s_X1_copyFrom σ (k + 1) (j + 1)) k 1 ((s_X1_copyFrom σ (k + 1) (j + 1)) j 1)) k 2 ((up (s_X1_copyFrom σ (k + 1) (j + 1)) k 1 ((s_X1_copyFrom σ (k + 1) (j + 1)) j 1)) j 2)) k 3 ((up (up (s_X1_copyFrom σ (k + 1) (j + 1)) k 1 ((s_X1_copyFrom σ (k + 1) (j + 1)) j 1)) k 2 ((up (s_X1_copyFrom σ (k + 1) (j + 1)) k 1 ((s_X1_copyFrom σ (k + 1) (j + 1)) j 1)) j 2)) j 3)) j 4)) k 5 ((up (up (up (up (s_X1_copyFrom σ (k + 1) (j + 1)) k 1 ((s_X1_copyFrom σ (k + 1) (j + 1)) j 1)) k 2 ((up (s_X1_copyFrom σ (k + 1) (j + 1)) k 1 ((s_X1_copyFrom σ (k + 1) (j + 1)) j 1)) j 2)) k 3 ((up (up (s_X1_copyFrom σ (k + 1) (j + 1)) k 1 ((s_X1_copyFrom σ (k + 1) (j + 1)) j 1)) k 2 ((up (s_X1_copyFrom σ (k + 1) (j + 1)) k 1 ((s_X1_copyFrom σ (k + 1) (j + 1)) j 1)) j 2)) j 3)) k 4 ((up (up (up (s_X1_copyFrom σ (k + 1) (j + 1)) k 1 ((s_X1_copyFrom σ (k + 1) (j + 1)) j 1)) k 2 ((up (s_X1_copyFrom σ (k + 1) (j + 1)) k 1 ((s_X1_copyFrom σ (k + 1) (j + 1)) j 1)) j 2)) k 3 ((up (up (s_X1_copyFrom σ (k + 1) (j + 1)) k 1 ((s_X1_copyFrom σ (k + 1) (j + 1)) j 1)) k 2 ((up (s_X1_copyFrom σ (k + 1) (j + 1)) k 1 ((s_X1_copyFrom σ (k + 1) (j + 1)) j 1)) j 2)) j 3)) j 4)) j 5)) k 6 ((up (up (up (up (up (s_X1_copyFrom σ (k + 1) (j + 1)) k 1 ((s_X1_copyFrom σ (k + 1) (j + 1)) j 1)) k 2 ((up (s_X1_copyFrom σ (k + 1) (j + 1)) k 1 ((s_X1_copyFrom σ (k + 1) (j + 1)) j 1)) j 2)) k 3 ((up (up (s_X1_copyFrom σ (k + 1) (j + 1)) k 1 ((s_X1_copyFrom σ (k + 1) (j + 1)) j 1)) k 2 ((up (s_X1_copyFrom σ (k + 1) (j + 1)) k 1 ((s_X1_copyFrom σ (k + 1) (j + 1)) j 1)) j 2)) j 3)) k 4 ((up (up (up (s_X1_copyFrom σ (k + 1) (j + 1)) k 1 ((s_X1_copyFrom σ (k + 1) (j + 1)) j 1)) k 2 ((up (s_X1_copyFrom σ (k + 1) (j + 1)) k 1 ((s_X1_copyFrom σ (k + 1) (j + 1)) j 1)) j 2)) k 3 ((up (up (s_X1_copyFrom σ (k + 1) (j + 1)) k 1 ((s_X1_copyFrom σ (k + 1) (j + 1)) j 1)) k 2 ((up (s_X1_copyFrom σ (k + 1) (j + 1)) k 1 ((s_X1_copyFrom σ (k + 1) (j + 1)) j 1)) j 2)) j 3)) j 4)) k 5 ((up (up (up (up (s_X1_copyFrom σ (k + 1) (j + 1)) k 1 ((s_X1_copyFrom σ (k + 1) (j + 1)) j 1)) k 2 ((up (s_X1_copyFrom σ (k + 1) (j + 1)) k 1 ((s_X1_copyFrom σ (k + 1) (j + 1)) j 1)) j 2)) k 3 ((up (up (s_X1_copyFrom σ (k + 1) (j + 1)) k 1 ((s_X1_copyFrom σ (k + 1) (j + 1)) j 1)) k 2 ((up (s_X1_copyFrom σ (k + 1) (j + 1)) k 1 ((s_X1_copyFrom σ (k + 1) (j + 1)) j 1)) j 2)) j 3)) k 4 ((up (up (up (s_X1_copyFrom σ (k + 1) (j + 1)) k 1 ((s_X1_copyFrom σ (k + 1) (j + 1)) j 1)) k 2 ((up (s_X1_copyFrom σ (k + 1) (j + 1)) k 1 ((s_X1_copyFrom σ (k + 1) (j + 1)) j 1)) j 2)) k 3 ((up (up (s_X1_copyFrom σ (k + 1) (j + 1)) k 1 ((s_X1_copyFrom σ (k + 1) (j + 1)) j 1)) k 2 ((up (s_X1_copyFrom σ (k + 1) (j + 1)) k 1 ((s_X1_copyFrom σ (k + 1) (j + 1)) j 1)) j 2)) j 3)) j 4)) j 5)) j 6)) j 7)) j 8)) k 9 ((up (up (up (up (up (up (up (up (s_X1_copyFrom σ (k + 1) (j + 1)) k 1 ((s_X1_copyFrom σ (k + 1) (j + 1)) j 1)) k 2 ((up (s_X1_copyFrom σ (k + 1) (j + 1)) k 1 ((s_X1_copyFrom σ (k + 1) (j + 1)) j 1)) j 2)) k 3 ((up (up (s_X1_copyFrom σ (k + 1) (j + 1)) k 1 ((s_X1_copyFrom σ (k + 1) (j + 1)) j 1)) k 2 ((up (s_X1_copyFrom σ (k + 1) (j + 1)) k 1 ((s_X1_copyFrom σ (k + 1) (j + 1)) j 1)) j 2)) j 3)) k 4 ((up (up (up (s_X1_copyFrom σ (k + 1) (j + 1)) k 1 ((s_X1_copyFrom σ (k + 1) (j + 1)) j 1)) k 2 ((up (s_X1_copyFrom σ (k + 1) (j + 1)) k 1 ((s_X1_copyFrom σ (k + 1) (j + 1)) j 1)) j 2)) k 3 ((up (up (s_X1_copyFrom σ (k + 1) (j + 1)) k 1 ((s_X1_copyFrom σ (k + 1) (j + 1)) j 1)) k 2 ((up (s_X1_copyFrom σ (k + 1) (j + 1)) k 1 ((s_X1_copyFrom σ (k + 1) (j + 1)) j 1)) j 2)) j 3)) j 4)) k 5 ((up (up (up (up (s_X1_copyFrom σ (k + 1) (j + 1)) k 1 ((s_X1_copyFrom σ (k + 1) (j + 1)) j 1)) k 2 ((up (s_X1_copyFrom σ (k + 1) (j + 1)) k 1 ((s_X1_copyFrom σ (k + 1) (j + 1)) j 1)) j 2)) k 3 ((up (up (s_X1_copyFrom σ (k + 1) (j + 1)) k 1 ((s_X1_copyFrom σ (k + 1) (j + 1)) j 1)) k 2 ((up (s_X1_copyFrom σ (k + 1) (j + 1)) k 1 ((s_X1_copyFrom σ (k + 1) (j + 1)) j 1)) j 2)) j 3)) k 4 ((up (up (up (s_X1_copyFrom σ (k + 1) (j + 1)) k 1 ((s_X1_copyFrom σ (k + 1) (j + 1)) j 1)) k 2 ((up (s_X1_copyFrom σ (k + 1) (j + 1)) k 1 ((s_X1_copyFrom σ (k + 1) (j + 1)) j 1)) j 2)) k 3 ((up (up (s_X1_copyFrom σ (k + 1) (j + 1)) k 1 ((s_X1_copyFrom σ (k + 1) (j + 1)) j 1)) k 2 ((up (s_X1_copyFrom σ (k + 1) (j + 1)) k 1 ((s_X1_copyFrom σ (k + 1) (j + 1)) j 1)) j 2)) j 3)) j 4)) j 5)) k 6 ((up (up (up (up (up (s_X1_copyFrom σ (k + 1) (j + 1)) k 1 ((s_X1_copyFrom σ (k + 1) (j + 1)) j 1)) k 2 ((up (s_X1_copyFrom σ (k + 1) (j + 1)) k 1 ((s_X1_copyFrom σ (k + 1) (j + 1)) j 1)) j 2)) k 3 ((up (up (s_X1_copyFrom σ (k + 1) (j + 1)) k 1 ((s_X1_copyFrom σ (k + 1) (j + 1)) j 1)) k 2 ((up (s_X1_copyFrom σ (k + 1) (j + 1)) k 1 ((s_X1_copyFrom σ (k + 1) (j + 1)) j 1)) j 2)) j 3)) k 4 ((up (up (up (s_X1_copyFrom σ (k + 1) (j + 1)) k 1 ((s_X1_copyFrom σ (k + 1) (j + 1)) j 1)) k 2 ((up (s_X1_copyFrom σ (k + 1) (j + 1)) k 1 ((s_X1_copyFrom σ (k + 1) (j + 1)) j 1)) j 2)) k 3 ((up (up (s_X1_copyFrom σ (k + 1) (j + 1)) k 1 ((s_X1_copyFrom σ (k + 1) (j + 1)) j 1)) k 2 ((up (s_X1_copyFrom σ (k + 1) (j + 1)) k 1 ((s_X1_copyFrom σ (k + 1) (j + 1)) j 1)) j 2)) j 3)) j 4)) k 5 ((up (up (up (up (s_X1_copyFrom σ (k + 1) (j + 1)) k 1 ((s_X1_copyFrom σ (k + 1) (j + 1)) j 1)) k 2 ((up (s_X1_copyFrom σ (k + 1) (j + 1)) k 1 ((s_X1_copyFrom σ (k + 1) (j + 1)) j 1)) j 2)) k 3 ((up (up (s_X1_copyFrom σ (k + 1) (j + 1)) k 1 ((s_X1_copyFrom σ (k + 1) (j + 1)) j 1)) k 2 ((up (s_X1_copyFrom σ (k + 1) (j + 1)) k 1 ((s_X1_copyFrom σ (k + 1) (j + 1)) j 1)) j 2)) j 3)) k 4 ((up (up (up (s_X1_copyFrom σ (k + 1) (j + 1)) k 1 ((s_X1_copyFrom σ (k + 1) (j + 1)) j 1)) k 2 ((up (s_X1_copyFrom σ (k + 1) (j + 1)) k 1 ((s_X1_copyFrom σ (k + 1) (j + 1)) j 1)) j 2)) k 3 ((up (up (s_X1_copyFrom σ (k + 1) (j + 1)) k 1 ((s_X1_copyFrom σ (k + 1) (j + 1)) j 1)) k 2 ((up (s_X1_copyFrom σ (k + 1) (j + 1)) k 1 ((s_X1_copyFrom σ (k + 1) (j + 1)) j 1)) j 2)) j 3)) j 4)) j 5)) j 6)) k 7 ((up (up (up (up (up (up (s_X1_copyFrom σ (k + 1) (j + 1)) k 1 ((s_X1_copyFrom σ (k + 1) (j + 1)) j 1)) k 2 ((up (s_X1_copyFrom σ (k + 1) (j + 1)) k 1 ((s_X1_copyFrom σ (k + 1) (j + 1)) j 1)) j 2)) k 3 ((up (up (s_X1_copyFrom σ (k + 1) (j + 1)) k 1 ((s_X1_copyFrom σ (k + 1) (j + 1)) j 1)) k 2 ((up (s_X1_copyFrom σ (k + 1) (j + 1)) k 1 ((s_X1_copyFrom σ (k + 1) (j + 1)) j 1)) j 2)) j 3)) k 4 ((up (up (up (s_X1_copyFrom σ (k + 1) (j + 1)) k 1 ((s_X1_copyFrom σ (k + 1) (j + 1)) j 1)) k 2 ((up (s_X1_copyFrom σ (k + 1) (j + 1)) k 1 ((s_X1_copyFrom σ (k + 1) (j + 1)) j 1)) j 2)) k 3 ((up (up (s_X1_copyFrom σ (k + 1) (j + 1)) k 1 ((s_X1_copyFrom σ (k + 1) (j + 1)) j 1)) k 2 ((up (s_X1_copyFrom σ (k + 1) (j + 1)) k 1 ((s_X1_copyFrom σ (k + 1) (j + 1)) j 1)) j 2)) j 3)) j 4)) k 5 ((up (up (up (up (s_X1_copyFrom σ (k + 1) (j + 1)) k 1 ((s_X1_copyFrom σ (k + 1) (j + 1)) j 1)) k 2 ((up (s_X1_copyFrom σ (k + 1) (j + 1)) k 1 ((s_X1_copyFrom σ (k + 1) (j + 1)) j 1)) j 2)) k 3 ((up (up (s_X1_copyFrom σ (k + 1) (j + 1)) k 1 ((s_X1_copyFrom σ (k + 1) (j + 1)) j 1)) k 2 ((up (s_X1_copyFrom σ (k + 1) (j + 1)) k 1 ((s_X1_copyFrom σ (k + 1) (j + 1)) j 1)) j 2)) j 3)) k 4 ((up (up (up (s_X1_copyFrom σ (k + 1) (j + 1)) k 1 ((s_X1_copyFrom σ (k + 1) (j + 1)) j 1)) k 2 ((up (s_X1_copyFrom σ (k + 1) (j + 1)) k 1 ((s_X1_copyFrom σ (k + 1) (j + 1)) j 1)) j 2)) k 3 ((up (up (s_X1_copyFrom σ (k + 1) (j + 1)) k 1 ((s_X1_copyFrom σ (k + 1) (j + 1)) j 1)) k 2 ((up (s_X1_copyFrom σ (k + 1) (j + 1)) k 1 ((s_X1_copyFrom σ (k + 1) (j + 1)) j 1)) j 2)) j 3)) j 4)) j 5)) k 6 ((up (up (up (up (up (s_X1_copyFrom σ (k + 1) (j + 1)) k 1 ((s_X1_copyFrom σ (k + 1) (j + 1)) j 1)) k 2 ((up (s_X1_copyFrom σ (k + 1) (j + 1)) k 1 ((s_X1_copyFrom σ (k + 1) (j + 1)) j 1)) j 2)) k 3 ((up (up (s_X1_copyFrom σ (k + 1) (j + 1)) k 1 ((s_X1_copyFrom σ (k + 1) (j + 1)) j 1)) k 2 ((up (s_X1_copyFrom σ (k + 1) (j + 1)) k 1 ((s_X1_copyFrom σ (k + 1) (j + 1)) j 1)) j 2)) j 3)) k 4 ((up (up (up (s_X1_copyFrom σ (k + 1) (j + 1)) k 1 ((s_X1_copyFrom σ (k + 1) (j + 1)) j 1)) k 2 ((up (s_X1_copyFrom σ (k + 1) (j + 1)) k 1 ((s_X1_copyFrom σ (k + 1) (j + 1)) j 1)) j 2)) k 3 ((up (up (s_X1_copyFrom σ (k + 1) (j + 1)) k 1 ((s_X1_copyFrom σ (k + 1) (j + 1)) j 1)) k 2 ((up (s_X1_copyFrom σ (k + 1) (j + 1)) k 1 ((s_X1_copyFrom σ (k + 1) (j + 1)) j 1)) j 2)) j 3)) j 4)) k 5 ((up (up (up (up (s_X1_copyFrom σ (k + 1) (j + 1)) k 1 ((s_X1_copyFrom σ (k + 1) (j + 1)) j 1)) k 2 ((up (s_X1_copyFrom σ (k + 1) (j + 1)) k 1 ((s_X1_copyFrom σ (k + 1) (j + 1)) j 1)) j 2)) k 3 ((up (up (s_X1_copyFrom σ (k + 1) (j + 1)) k 1 ((s_X1_copyFrom σ (k + 1) (j + 1)) j 1)) k 2 ((up (s_X1_copyFrom σ (k + 1) (j + 1)) k 1 ((s_X1_copyFrom σ (k + 1) (j + 1)) j 1)) j 2)) j 3)) k 4 ((up (up (up (s_X1_copyFrom σ (k + 1) (j + 1)) k 1 ((s_X1_copyFrom σ (k + 1) (j + 1)) j 1)) k 2 ((up (s_X1_copyFrom σ (k + 1) (j + 1)) k 1 ((s_X1_copyFrom σ (k + 1) (j + 1)) j 1)) j 2)) k 3 ((up (up (s_X1_copyFrom σ (k + 1) (j + 1)) k 1 ((s_X1_copyFrom σ (k + 1) (j + 1)) j 1)) k 2 ((up (s_X1_copyFrom σ (k + 1) (j + 1)) k 1 ((s_X1_copyFrom σ (k + 1) (j + 1)) j 1)) j 2)) j 3)) j 4)) j 5)) j 6)) j 7)) k 8 ((up (up (up (up (up (up (up (s_X1_copyFrom σ (k + 1) (j + 1)) k 1 ((s_X1_copyFrom σ (k + 1) (j + 1)) j 1)) k 2 ((up (s_X1_copyFrom σ (k + 1) (j + 1)) k 1 ((s_X1_copyFrom σ (k + 1) (j + 1)) j 1)) j 2)) k 3 ((up (up (s_X1_copyFrom σ (k + 1) (j + 1)) k 1 ((s_X1_copyFrom σ (k + 1) (j + 1)) j 1)) k 2 ((up (s_X1_copyFrom σ (k + 1) (j + 1)) k 1 ((s_X1_copyFrom σ (k + 1) (j + 1)) j 1)) j 2)) j 3)) k 4 ((up (up (up (s_X1_copyFrom σ (k + 1) (j + 1)) k 1 ((s_X1_copyFrom σ (k + 1) (j + 1)) j 1)) k 2 ((up (s_X1_copyFrom σ (k + 1) (j + 1)) k 1 ((s_X1_copyFrom σ (k + 1) (j + 1)) j 1)) j 2)) k 3 ((up (up (s_X1_copyFrom σ (k + 1) (j + 1)) k 1 ((s_X1_copyFrom σ (k + 1) (j + 1)) j 1)) k 2 ((up (s_X1_copyFrom σ (k + 1) (j + 1)) k 1 ((s_X1_copyFrom σ (k + 1) (j + 1)) j 1)) j 2)) j 3)) j 4)) k 5 ((up (up (up (up (s_X1_copyFrom σ (k + 1) (j + 1)) k 1 ((s_X1_copyFrom σ (k + 1) (j + 1)) j 1)) k 2 ((up (s_X1_copyFrom σ (k + 1) (j + 1)) k 1 ((s_X1_copyFrom σ (k + 1) (j + 1)) j 1)) j 2)) k 3 ((up (up (s_X1_copyFrom σ (k + 1) (j + 1)) k 1 ((s_X1_copyFrom σ (k + 1) (j + 1)) j 1)) k 2 ((up (s_X1_copyFrom σ (k + 1) (j + 1)) k 1 ((s_X1_copyFrom σ (k + 1) (j + 1)) j 1)) j 2)) j 3)) k 4 ((up (up (up (s_X1_copyFrom σ (k + 1) (j + 1)) k 1 ((s_X1_copyFrom σ (k + 1) (j + 1)) j 1)) k 2 ((up (s_X1_copyFrom σ (k + 1) (j + 1)) k 1 ((s_X1_copyFrom σ (k + 1) (j + 1)) j 1)) j 2)) k 3 ((up (up (s_X1_copyFrom σ (k + 1) (j + 1)) k 1 ((s_X1_copyFrom σ (k + 1) (j + 1)) j 1)) k 2 ((up (s_X1_copyFrom σ (k + 1) (j + 1)) k 1 ((s_X1_copyFrom σ (k + 1) (j + 1)) j 1)) j 2)) j 3)) j 4)) j 5)) k 6 ((up (up (up (up (up (s_X1_copyFrom σ (k + 1) (j + 1)) k 1 ((s_X1_copyFrom σ (k + 1) (j + 1)) j 1)) k 2 ((up (s_X1_copyFrom σ (k + 1) (j + 1)) k 1 ((s_X1_copyFrom σ (k + 1) (j + 1)) j 1)) j 2)) k 3 ((up (up (s_X1_copyFrom σ (k + 1) (j + 1)) k 1 ((s_X1_copyFrom σ (k + 1) (j + 1)) j 1)) k 2 ((up (s_X1_copyFrom σ (k + 1) (j + 1)) k 1 ((s_X1_copyFrom σ (k + 1) (j + 1)) j 1)) j 2)) j 3)) k 4 ((up (up (up (s_X1_copyFrom σ (k + 1) (j + 1)) k 1 ((s_X1_copyFrom σ (k + 1) (j + 1)) j 1)) k 2 ((up (s_X1_copyFrom σ (k + 1) (j + 1)) k 1 ((s_X1_copyFrom σ (k + 1) (j + 1)) j 1)) j 2)) k 3 ((up (up (s_X1_copyFrom σ (k + 1) (j + 1)) k 1 ((s_X1_copyFrom σ (k + 1) (j + 1)) j 1)) k 2 ((up (s_X1_copyFrom σ (k + 1) (j + 1)) k 1 ((s_X1_copyFrom σ (k + 1) (j + 1)) j 1)) j 2)) j 3)) j 4)) k 5 ((up (up (up (up (s_X1_copyFrom σ (k + 1) (j + 1)) k 1 ((s_X1_copyFrom σ (k + 1) (j + 1)) j 1)) k 2 ((up (s_X1_copyFrom σ (k + 1) (j + 1)) k 1 ((s_X1_copyFrom σ (k + 1) (j + 1)) j 1)) j 2)) k 3 ((up (up (s_X1_copyFrom σ (k + 1) (j + 1)) k 1 ((s_X1_copyFrom σ (k + 1) (j + 1)) j 1)) k 2 ((up (s_X1_copyFrom σ (k + 1) (j + 1)) k 1 ((s_X1_copyFrom σ (k + 1) (j + 1)) j 1)) j 2)) j 3)) k 4 ((up (up (up (s_X1_copyFrom σ (k + 1) (j + 1)) k 1 ((s_X1_copyFrom σ (k + 1) (j + 1)) j 1)) k 2 ((up (s_X1_copyFrom σ (k + 1) (j + 1)) k 1 ((s_X1_copyFrom σ (k + 1) (j + 1)) j 1)) j 2)) k 3 ((up (up (s_X1_copyFrom σ (k + 1) (j + 1)) k 1 ((s_X1_copyFrom σ (k + 1) (j + 1)) j 1)) k 2 ((up (s_X1_copyFrom σ (k + 1) (j + 1)) k 1 ((s_X1_copyFrom σ (k + 1) (j + 1)) j 1)) j 2)) j 3)) j 4)) j 5)) j 6)) k 7 ((up (up (up (up (up (up (s_X1_copyFrom σ (k + 1) (j + 1)) k 1 ((s_X1_copyFrom σ (k + 1) (j + 1)) j 1)) k 2 ((up (s_X1_copyFrom σ (k + 1) (j + 1)) k 1 ((s_X1_copyFrom σ (k + 1) (j + 1)) j 1)) j 2)) k 3 ((up (up (s_X1_copyFrom σ (k + 1) (j + 1)) k 1 ((s_X1_copyFrom σ (k + 1) (j + 1)) j 1)) k 2 ((up (s_X1_copyFrom σ (k + 1) (j + 1)) k 1 ((s_X1_copyFrom σ (k + 1) (j + 1)) j 1)) j 2)) j 3)) k 4 ((up (up (up (s_X1_copyFrom σ (k + 1) (j + 1)) k 1 ((s_X1_copyFrom σ (k + 1) (j + 1)) j 1)) k 2 ((up (s_X1_copyFrom σ (k + 1) (j + 1)) k 1 ((s_X1_copyFrom σ (k + 1) (j + 1)) j 1)) j 2)) k 3 ((up (up (s_X1_copyFrom σ (k + 1) (j + 1)) k 1 ((s_X1_copyFrom σ (k + 1) (j + 1)) j 1)) k 2 ((up (s_X1_copyFrom σ (k + 1) (j + 1)) k 1 ((s_X1_copyFrom σ (k + 1) (j + 1)) j 1)) j 2)) j 3)) j 4)) k 5 ((up (up (up (up (s_X1_copyFrom σ (k + 1) (j + 1)) k 1 ((s_X1_copyFrom σ (k + 1) (j + 1)) j 1)) k 2 ((up (s_X1_copyFrom σ (k + 1) (j + 1)) k 1 ((s_X1_copyFrom σ (k + 1) (j + 1)) j 1)) j 2)) k 3 ((up (up (s_X1_copyFrom σ (k + 1) (j + 1)) k 1 ((s_X1_copyFrom σ (k + 1) (j + 1)) j 1)) k 2 ((up (s_X1_copyFrom σ (k + 1) (j + 1)) k 1 ((s_X1_copyFrom σ (k + 1) (j + 1)) j 1)) j 2)) j 3)) k 4 ((up (up (up (s_X1_copyFrom σ (k + 1) (j + 1)) k 1 ((s_X1_copyFrom σ (k + 1) (j + 1)) j 1)) k 2 ((up (s_X1_copyFrom σ (k + 1) (j + 1)) k 1 ((s_X1_copyFrom σ (k + 1) (j + 1)) j 1)) j 2)) k 3 ((up (up (s_X1_copyFrom σ (k + 1) (j + 1)) k 1 ((s_X1_copyFrom σ (k + 1) (j + 1)) j 1)) k 2 ((up (s_X1_copyFrom σ (k + 1) (j + 1)) k 1 ((s_X1_copyFrom σ (k + 1) (j + 1)) j 1)) j 2)) j 3)) j 4)) j 5)) k 6 ((up (up (up (up (up (s_X1_copyFrom σ (k + 1) (j + 1)) k 1 ((s_X1_copyFrom σ (k + 1) (j + 1)) j 1)) k 2 ((up (s_X1_copyFrom σ (k + 1) (j + 1)) k 1 ((s_X1_copyFrom σ (k + 1) (j + 1)) j 1)) j 2)) k 3 ((up (up (s_X1_copyFrom σ (k + 1) (j + 1)) k 1 ((s_X1_copyFrom σ (k + 1) (j + 1)) j 1)) k 2 ((up (s_X1_copyFrom σ (k + 1) (j + 1)) k 1 ((s_X1_copyFrom σ (k + 1) (j + 1)) j 1)) j 2)) j 3)) k 4 ((up (up (up (s_X1_copyFrom σ (k + 1) (j + 1)) k 1 ((s_X1_copyFrom σ (k + 1) (j + 1)) j 1)) k 2 ((up (s_X1_copyFrom σ (k + 1) (j + 1)) k 1 ((s_X1_copyFrom σ (k + 1) (j + 1)) j 1)) j 2)) k 3 ((up (up (s_X1_copyFrom σ (k + 1) (j + 1)) k 1 ((s_X1_copyFrom σ (k + 1) (j + 1)) j 1)) k 2 ((up (s_X1_copyFrom σ (k + 1) (j + 1)) k 1 ((s_X1_copyFrom σ (k + 1) (j + 1)) j 1)) j 2)) j 3)) j 4)) k 5 ((up (up (up (up (s_X1_copyFrom σ (k + 1) (j + 1)) k 1 ((s_X1_copyFrom σ (k + 1) (j + 1)) j 1)) k 2 ((up (s_X1_copyFrom σ (k + 1) (j + 1)) k 1 ((s_X1_copyFrom σ (k + 1) (j + 1)) j 1)) j 2)) k 3 ((up (up (s_X1_copyFrom σ (k + 1) (j + 1)) k 1 ((s_X1_copyFrom σ (k + 1) (j + 1)) j 1)) k 2 ((up (s_X1_copyFrom σ (k + 1) (j + 1)) k 1 ((s_X1_copyFrom σ (k + 1) (j + 1)) j 1)) j 2)) j 3)) k 4 ((up (up (up (s_X1_copyFrom σ (k + 1) (j + 1)) k 1 ((s_X1_copyFrom σ (k + 1) (j + 1)) j 1)) k 2 ((up (s_X1_copyFrom σ (k + 1) (j + 1)) k 1 ((s_X1_copyFrom σ (k + 1) (j + 1)) j 1)) j 2)) k 3 ((up (up (s_X1_copyFrom σ (k + 1) (j + 1)) k 1 ((s_X1_copyFrom σ (k + 1) (j + 1)) j 1)) k 2 ((up (s_X1_copyFrom σ (k + 1) (j + 1)) k 1 ((s_X1_copyFrom σ (k + 1) (j + 1)) j 1)) j 2)) j 3)) j 4)) j 5)) j 6)) j 7)) j 8)) j 9)) j 10)) j 11)
set_option maxHeartbeats 4000000 in
set_option maxRecDepth 100000 in
theorem k_X4_copyFrom (l : Launch) (D : va_G) (cy : Nat → ClassId) (z : Nat) (o : Int64) (d : UInt64) (σ τ : Sg) {k : Nat} (hk : kd k = 4) (j : Nat) (hk_j : kd j = 4) : KV l yX4_copyFrom cX4_copyFrom 2 rm_X4_copyFrom D cy z [.ref (z + k), .ref (z + j)] o d σ τ (s_X4_copyFrom σ k j) τ := by
  refine met_of RX4 (plainFor_of_name (by decide)) rfl (Nat.le_of_ble_eq_true rfl) ?_
  intro p e s m args below meth c C hP hS ls hl
  obtain ⟨hx, hb, hr, hml, hown, hW, hlocks, hAm⟩ := id C
  have hl : lv_has ls 2 [(0, .ref (z + k)), (1, .ref (z + j))] := hl
  refine lv_aload_n hx hb dX4_copyFrom_0 rfl (lv_at hl 0 rfl) ?_
  refine gf_X4_12 C hP hk dX4_copyFrom_1 ?_
  refine lv_aload_n hx hb dX4_copyFrom_4 rfl (lv_at hl 1 rfl) ?_
  refine gf_X4_12 C hP hk_j dX4_copyFrom_5 ?_
  refine thn_V (run_V (As := [.ref (z + (j + 1))]) (rest := []) C (k_X1_copyFrom l D cy z o d σ τ (kd4_1 hk) (j + 1) (kd4_1 hk_j)) hP hS cw_X1_copyFrom (mA2 (i := 140) rfl rfl) (kd4_1 hk) ⟨rfl, rfl⟩ ⟨Nat.le_of_ble_eq_true rfl, Nat.le_of_ble_eq_true rfl⟩ rfl (Nat.le_of_ble_eq_true rfl) hl.1 ⟨Nat.zero_le _, Nat.zero_le _⟩ dX4_copyFrom_8) hS (fun H locs hP hS => ?_)
  refine lv_aload_n hx hb dX4_copyFrom_11 rfl (lv_at hl 0 rfl) ?_
  refine lv_aload_n hx hb dX4_copyFrom_12 rfl (lv_at hl 1 rfl) ?_
  refine gf_X4_18 C hP hk_j dX4_copyFrom_13 ?_
  refine pf_X4_18 C hP hS hk dX4_copyFrom_16 (fun H locs hP hS => ?_)
  refine lv_aload_n hx hb dX4_copyFrom_19 rfl (lv_at hl 0 rfl) ?_
  refine lv_aload_n hx hb dX4_copyFrom_20 rfl (lv_at hl 1 rfl) ?_
  refine gf_X4_77 C hP hk_j dX4_copyFrom_21 ?_
  refine pf_X4_77 C hP hS hk dX4_copyFrom_24 (fun H locs hP hS => ?_)
  refine lv_aload_n hx hb dX4_copyFrom_27 rfl (lv_at hl 0 rfl) ?_
  refine lv_aload_n hx hb dX4_copyFrom_28 rfl (lv_at hl 1 rfl) ?_
  refine gf_X4_26 C hP hk_j dX4_copyFrom_29 ?_
  refine pf_X4_26 C hP hS hk dX4_copyFrom_32 (fun H locs hP hS => ?_)
  refine lv_aload_n hx hb dX4_copyFrom_35 rfl (lv_at hl 0 rfl) ?_
  refine lv_aload_n hx hb dX4_copyFrom_36 rfl (lv_at hl 1 rfl) ?_
  refine gf_X4_80 C hP hk_j dX4_copyFrom_37 ?_
  refine pf_X4_80 C hP hS hk dX4_copyFrom_40 (fun H locs hP hS => ?_)
  refine lv_aload_n hx hb dX4_copyFrom_43 rfl (lv_at hl 0 rfl) ?_
  refine lv_aload_n hx hb dX4_copyFrom_44 rfl (lv_at hl 1 rfl) ?_
  refine gf_X4_83 C hP hk_j dX4_copyFrom_45 ?_
  refine pf_X4_83 C hP hS hk dX4_copyFrom_48 (fun H locs hP hS => ?_)
  refine lv_aload_n hx hb dX4_copyFrom_51 rfl (lv_at hl 0 rfl) ?_
  refine lv_aload_n hx hb dX4_copyFrom_52 rfl (lv_at hl 1 rfl) ?_
  refine gf_X4_86 C hP hk_j dX4_copyFrom_53 ?_
  refine pf_X4_86 C hP hS hk dX4_copyFrom_56 (fun H locs hP hS => ?_)
  refine lv_aload_n hx hb dX4_copyFrom_59 rfl (lv_at hl 0 rfl) ?_
  refine lv_aload_n hx hb dX4_copyFrom_60 rfl (lv_at hl 1 rfl) ?_
  refine gf_X4_99 C hP hk_j dX4_copyFrom_61 ?_
  refine pf_X4_99 C hP hS hk dX4_copyFrom_64 (fun H locs hP hS => ?_)
  refine lv_aload_n hx hb dX4_copyFrom_67 rfl (lv_at hl 0 rfl) ?_
  refine lv_aload_n hx hb dX4_copyFrom_68 rfl (lv_at hl 1 rfl) ?_
  refine gf_X4_39 C hP hk_j dX4_copyFrom_69 ?_
  refine pf_X4_39 C hP hS hk dX4_copyFrom_72 (fun H locs hP hS => ?_)
  refine lv_aload_n hx hb dX4_copyFrom_75 rfl (lv_at hl 0 rfl) ?_
  refine lv_aload_n hx hb dX4_copyFrom_76 rfl (lv_at hl 1 rfl) ?_
  refine gf_X4_102 C hP hk_j dX4_copyFrom_77 ?_
  refine pf_X4_102 C hP hS hk dX4_copyFrom_80 (fun H locs hP hS => ?_)
  refine lv_aload_n hx hb dX4_copyFrom_83 rfl (lv_at hl 0 rfl) ?_
  refine lv_aload_n hx hb dX4_copyFrom_84 rfl (lv_at hl 1 rfl) ?_
  refine gf_X4_36 C hP hk_j dX4_copyFrom_85 ?_
  refine pf_X4_36 C hP hS hk dX4_copyFrom_88 (fun H locs hP hS => ?_)
  refine lv_aload_n hx hb dX4_copyFrom_91 rfl (lv_at hl 0 rfl) ?_
  refine lv_aload_n hx hb dX4_copyFrom_92 rfl (lv_at hl 1 rfl) ?_
  refine gf_X4_32 C hP hk_j dX4_copyFrom_93 ?_
  refine pf_X4_32 C hP hS hk dX4_copyFrom_96 (fun H locs hP hS => ?_)
  exact ret_V C hP hS rfl rfl dX4_copyFrom_99

theorem cw_X0_copyFrom : cwVt yX0_copyFrom cX0_copyFrom 2 none 0 1 := ⟨(mA2 (i := 133) rfl rfl), (mA2 (i := 134) rfl rfl), (mA1 (i := 2) rfl rfl), (mA2 (i := 135) rfl rfl), by decide +kernel, ⟨_, rfl, rfl⟩, by decide⟩
abbrev rm_X0_copyFrom : Room := { frames := 2, cells := 0, slots := 0, locals := 43 }
def s_X0_copyFrom (σ : Sg) (k : Nat) (j : Nat) : Sg :=
  up (up (s_X4_copyFrom (s_X4_copyFrom (s_X4_copyFrom (s_X4_copyFrom σ (k + 1) (j + 1)) (k + 4) (j + 4)) (k + 7) (j + 7)) (k + 10) (j + 10)) k 4 ((s_X4_copyFrom (s_X4_copyFrom (s_X4_copyFrom (s_X4_copyFrom σ (k + 1) (j + 1)) (k + 4) (j + 4)) (k + 7) (j + 7)) (k + 10) (j + 10)) j 4)) k 5 ((up (s_X4_copyFrom (s_X4_copyFrom (s_X4_copyFrom (s_X4_copyFrom σ (k + 1) (j + 1)) (k + 4) (j + 4)) (k + 7) (j + 7)) (k + 10) (j + 10)) k 4 ((s_X4_copyFrom (s_X4_copyFrom (s_X4_copyFrom (s_X4_copyFrom σ (k + 1) (j + 1)) (k + 4) (j + 4)) (k + 7) (j + 7)) (k + 10) (j + 10)) j 4)) j 5)
set_option maxHeartbeats 4000000 in
set_option maxRecDepth 100000 in
theorem k_X0_copyFrom (l : Launch) (D : va_G) (cy : Nat → ClassId) (z : Nat) (o : Int64) (d : UInt64) (σ τ : Sg) {k : Nat} (hk : kd k = 0) (j : Nat) (hk_j : kd j = 0) : KV l yX0_copyFrom cX0_copyFrom 2 rm_X0_copyFrom D cy z [.ref (z + k), .ref (z + j)] o d σ τ (s_X0_copyFrom σ k j) τ := by
  refine met_of RX0 (plainFor_of_name (by decide)) rfl (Nat.le_of_ble_eq_true rfl) ?_
  intro p e s m args below meth c C hP hS ls hl
  obtain ⟨hx, hb, hr, hml, hown, hW, hlocks, hAm⟩ := id C
  have hl : lv_has ls 2 [(0, .ref (z + k)), (1, .ref (z + j))] := hl
  refine lv_aload_n hx hb dX0_copyFrom_0 rfl (lv_at hl 0 rfl) ?_
  refine gf_X0_12 C hP hk dX0_copyFrom_1 ?_
  refine lv_aload_n hx hb dX0_copyFrom_4 rfl (lv_at hl 1 rfl) ?_
  refine gf_X0_12 C hP hk_j dX0_copyFrom_5 ?_
  refine thn_V (run_V (As := [.ref (z + (j + 1))]) (rest := []) C (k_X4_copyFrom l D cy z o d σ τ (kd0_1 hk) (j + 1) (kd0_1 hk_j)) hP hS cw_X4_copyFrom (mA2 (i := 136) rfl rfl) (kd0_1 hk) ⟨rfl, rfl⟩ ⟨Nat.le_of_ble_eq_true rfl, Nat.le_of_ble_eq_true rfl⟩ rfl (Nat.le_of_ble_eq_true rfl) hl.1 ⟨Nat.zero_le _, Nat.zero_le _⟩ dX0_copyFrom_8) hS (fun H locs hP hS => ?_)
  refine lv_aload_n hx hb dX0_copyFrom_11 rfl (lv_at hl 0 rfl) ?_
  refine gf_X0_18 C hP hk dX0_copyFrom_12 ?_
  refine lv_aload_n hx hb dX0_copyFrom_15 rfl (lv_at hl 1 rfl) ?_
  refine gf_X0_18 C hP hk_j dX0_copyFrom_16 ?_
  refine thn_V (run_V (As := [.ref (z + (j + 4))]) (rest := []) C (k_X4_copyFrom l D cy z o d (s_X4_copyFrom σ (k + 1) (j + 1)) τ (kd0_4 hk) (j + 4) (kd0_4 hk_j)) hP hS cw_X4_copyFrom (mA2 (i := 136) rfl rfl) (kd0_4 hk) ⟨rfl, rfl⟩ ⟨Nat.le_of_ble_eq_true rfl, Nat.le_of_ble_eq_true rfl⟩ rfl (Nat.le_of_ble_eq_true rfl) hl.1 ⟨Nat.zero_le _, Nat.zero_le _⟩ dX0_copyFrom_19) hS (fun H locs hP hS => ?_)
  refine lv_aload_n hx hb dX0_copyFrom_22 rfl (lv_at hl 0 rfl) ?_
  refine gf_X0_21 C hP hk dX0_copyFrom_23 ?_
  refine lv_aload_n hx hb dX0_copyFrom_26 rfl (lv_at hl 1 rfl) ?_
  refine gf_X0_21 C hP hk_j dX0_copyFrom_27 ?_
  refine thn_V (run_V (As := [.ref (z + (j + 7))]) (rest := []) C (k_X4_copyFrom l D cy z o d (s_X4_copyFrom (s_X4_copyFrom σ (k + 1) (j + 1)) (k + 4) (j + 4)) τ (kd0_7 hk) (j + 7) (kd0_7 hk_j)) hP hS cw_X4_copyFrom (mA2 (i := 136) rfl rfl) (kd0_7 hk) ⟨rfl, rfl⟩ ⟨Nat.le_of_ble_eq_true rfl, Nat.le_of_ble_eq_true rfl⟩ rfl (Nat.le_of_ble_eq_true rfl) hl.1 ⟨Nat.zero_le _, Nat.zero_le _⟩ dX0_copyFrom_30) hS (fun H locs hP hS => ?_)
  refine lv_aload_n hx hb dX0_copyFrom_33 rfl (lv_at hl 0 rfl) ?_
  refine gf_X0_24 C hP hk dX0_copyFrom_34 ?_
  refine lv_aload_n hx hb dX0_copyFrom_37 rfl (lv_at hl 1 rfl) ?_
  refine gf_X0_24 C hP hk_j dX0_copyFrom_38 ?_
  refine thn_V (run_V (As := [.ref (z + (j + 10))]) (rest := []) C (k_X4_copyFrom l D cy z o d (s_X4_copyFrom (s_X4_copyFrom (s_X4_copyFrom σ (k + 1) (j + 1)) (k + 4) (j + 4)) (k + 7) (j + 7)) τ (kd0_10 hk) (j + 10) (kd0_10 hk_j)) hP hS cw_X4_copyFrom (mA2 (i := 136) rfl rfl) (kd0_10 hk) ⟨rfl, rfl⟩ ⟨Nat.le_of_ble_eq_true rfl, Nat.le_of_ble_eq_true rfl⟩ rfl (Nat.le_of_ble_eq_true rfl) hl.1 ⟨Nat.zero_le _, Nat.zero_le _⟩ dX0_copyFrom_41) hS (fun H locs hP hS => ?_)
  refine lv_aload_n hx hb dX0_copyFrom_44 rfl (lv_at hl 0 rfl) ?_
  refine lv_aload_n hx hb dX0_copyFrom_45 rfl (lv_at hl 1 rfl) ?_
  refine gf_X0_27 C hP hk_j dX0_copyFrom_46 ?_
  refine pf_X0_27 C hP hS hk dX0_copyFrom_49 (fun H locs hP hS => ?_)
  refine lv_aload_n hx hb dX0_copyFrom_52 rfl (lv_at hl 0 rfl) ?_
  refine lv_aload_n hx hb dX0_copyFrom_53 rfl (lv_at hl 1 rfl) ?_
  refine gf_X0_31 C hP hk_j dX0_copyFrom_54 ?_
  refine pf_X0_31 C hP hS hk dX0_copyFrom_57 (fun H locs hP hS => ?_)
  exact ret_V C hP hS rfl rfl dX0_copyFrom_60

theorem cw_X3_keep : cwVt yX3_keep cX3_keep 2 none 3 1 := ⟨(mA2 (i := 125) rfl rfl), (mA2 (i := 126) rfl rfl), (mA1 (i := 5) rfl rfl), (mA2 (i := 127) rfl rfl), by decide +kernel, ⟨_, rfl, rfl⟩, by decide⟩
abbrev rm_X3_keep : Room := { frames := 3, cells := 0, slots := 0, locals := 64 }
def s_X3_keep (σ : Sg) (k : Nat) (j : Nat) : Sg :=
  if 4 ≤ (σ k 5) then
    s_X0_copyFrom (up σ k 4 (((σ k 4) + 1) - ((σ k 4) + 1) / 4 * 4)) (f_X3_latest (up σ k 4 (((σ k 4) + 1) - ((σ k 4) + 1) / 4 * 4)) k) j
  else
    s_X0_copyFrom (up σ k 5 ((σ k 5) + 1)) (f_X3_latest (up σ k 5 ((σ k 5) + 1)) k) j
set_option maxHeartbeats 4000000 in
set_option maxRecDepth 100000 in
theorem k_X3_keep (l : Launch) (D : va_G) (cy : Nat → ClassId) (z : Nat) (o : Int64) (d : UInt64) (σ τ : Sg) {k : Nat} (hk : kd k = 3) (j : Nat) (hk_j : kd j = 0) : KV l yX3_keep cX3_keep 2 rm_X3_keep D cy z [.ref (z + k), .ref (z + j)] o d σ τ (s_X3_keep σ k j) τ := by
  refine met_of RX3 (plainFor_of_name (by decide)) rfl (Nat.le_of_ble_eq_true rfl) ?_
  intro p e s m args below meth c C hP hS ls hl
  obtain ⟨hx, hb, hr, hml, hown, hW, hlocks, hAm⟩ := id C
  have hl : lv_has ls 2 [(0, .ref (z + k)), (1, .ref (z + j))] := hl
  refine lv_aload_n hx hb dX3_keep_0 rfl (lv_at hl 0 rfl) ?_
  refine gf_X3_27 C hP hk dX3_keep_1 ?_
  refine lv_iconst (v := 4) hx hb dX3_keep_4 (by decide) ?_
  refine lv_icmp_ge (tgt := 21) hx hb dX3_keep_5 (by decide) (fun c_5 => ?_) (fun c_5 => ?_)
  · refine lv_aload_n hx hb dX3_keep_21 rfl (lv_at hl 0 rfl) ?_
    refine lv_aload_n hx hb dX3_keep_22 rfl (lv_at hl 0 rfl) ?_
    refine gf_X3_31 C hP hk dX3_keep_23 ?_
    refine lv_iconst (v := 1) hx hb dX3_keep_26 (by decide) ?_
    refine lv_iadd hx hb dX3_keep_27 ?_
    refine lv_iconst (v := 4) hx hb dX3_keep_28 (by decide) ?_
    refine lv_irem hx hb dX3_keep_29 (by decide) ?_
    refine pf_X3_31 C hP hS hk dX3_keep_30 (fun H locs hP hS => ?_)
    refine lv_aload_n hx hb dX3_keep_33 rfl (lv_at hl 0 rfl) ?_
    refine thn_R (run_V (As := []) (rest := []) C (k_X3_latest l D cy z o d (up σ k 4 (((σ k 4) + 1) - ((σ k 4) + 1) / 4 * 4)) τ hk) hP hS cw_X3_latest (mA2 (i := 128) rfl rfl) hk ⟨rfl, rfl⟩ ⟨Nat.le_of_ble_eq_true rfl, Nat.le_of_ble_eq_true rfl⟩ rfl (Nat.le_of_ble_eq_true rfl) hl.1 ⟨Nat.zero_le _, Nat.zero_le _⟩ dX3_keep_34) hS (fun H locs hP hS => ?_)
    refine lv_aload_n hx hb dX3_keep_37 rfl (lv_at hl 1 rfl) ?_
    refine thn_V (run_V (As := [.ref (z + j)]) (rest := []) C (k_X0_copyFrom l D cy z o d (up σ k 4 (((σ k 4) + 1) - ((σ k 4) + 1) / 4 * 4)) τ (kr_X3_latest (up σ k 4 (((σ k 4) + 1) - ((σ k 4) + 1) / 4 * 4)) hk) j hk_j) hP hS cw_X0_copyFrom (mA2 (i := 132) rfl rfl) (kr_X3_latest (up σ k 4 (((σ k 4) + 1) - ((σ k 4) + 1) / 4 * 4)) hk) ⟨rfl, rfl⟩ ⟨Nat.le_of_ble_eq_true rfl, Nat.le_of_ble_eq_true rfl⟩ rfl (Nat.le_of_ble_eq_true rfl) hl.1 ⟨Nat.zero_le _, Nat.zero_le _⟩ dX3_keep_38) hS (fun H locs hP hS => ?_)
    exact ret_V C hP hS (by unfold s_X3_keep; rw [if_pos c_5]) rfl dX3_keep_41
  · refine lv_aload_n hx hb dX3_keep_8 rfl (lv_at hl 0 rfl) ?_
    refine lv_dup hx hb dX3_keep_9 rfl ?_
    refine gf_X3_27 C hP hk dX3_keep_10 ?_
    refine lv_iconst (v := 1) hx hb dX3_keep_13 (by decide) ?_
    refine lv_iadd hx hb dX3_keep_14 ?_
    refine pf_X3_27 C hP hS hk dX3_keep_15 (fun H locs hP hS => ?_)
    refine lv_goto (tgt := 33) hx hb dX3_keep_18 (by decide) ?_
    refine lv_aload_n hx hb dX3_keep_33 rfl (lv_at hl 0 rfl) ?_
    refine thn_R (run_V (As := []) (rest := []) C (k_X3_latest l D cy z o d (up σ k 5 ((σ k 5) + 1)) τ hk) hP hS cw_X3_latest (mA2 (i := 128) rfl rfl) hk ⟨rfl, rfl⟩ ⟨Nat.le_of_ble_eq_true rfl, Nat.le_of_ble_eq_true rfl⟩ rfl (Nat.le_of_ble_eq_true rfl) hl.1 ⟨Nat.zero_le _, Nat.zero_le _⟩ dX3_keep_34) hS (fun H locs hP hS => ?_)
    refine lv_aload_n hx hb dX3_keep_37 rfl (lv_at hl 1 rfl) ?_
    refine thn_V (run_V (As := [.ref (z + j)]) (rest := []) C (k_X0_copyFrom l D cy z o d (up σ k 5 ((σ k 5) + 1)) τ (kr_X3_latest (up σ k 5 ((σ k 5) + 1)) hk) j hk_j) hP hS cw_X0_copyFrom (mA2 (i := 132) rfl rfl) (kr_X3_latest (up σ k 5 ((σ k 5) + 1)) hk) ⟨rfl, rfl⟩ ⟨Nat.le_of_ble_eq_true rfl, Nat.le_of_ble_eq_true rfl⟩ rfl (Nat.le_of_ble_eq_true rfl) hl.1 ⟨Nat.zero_le _, Nat.zero_le _⟩ dX3_keep_38) hS (fun H locs hP hS => ?_)
    exact ret_V C hP hS (by unfold s_X3_keep; rw [if_neg c_5]) rfl dX3_keep_41
end
section
/-- only cells of P are written -/
def Fr (P : Nat → Prop) (σ σ' : Sg) : Prop := ∀ q, ¬ P q → σ' q = σ q
theorem Fr.rf {P : Nat → Prop} {σ : Sg} : Fr P σ σ := fun _ _ => rfl
theorem Fr.tr {P : Nat → Prop} {σ σ' σ'' : Sg} (h1 : Fr P σ σ') (h2 : Fr P σ' σ'') : Fr P σ σ'' := fun q h => (h2 q h).trans (h1 q h)
theorem Fr.up {P : Nat → Prop} {σ σ' : Sg} {k j : Nat} {v : Int32} (h : Fr P σ σ') (hk : P k) : Fr P σ (up σ' k j v) := fun q hq => (up_ne (fun e => hq (by rw [e]; exact hk))).trans (h q hq)
theorem Fr.mono {P P' : Nat → Prop} {σ σ' : Sg} (h : Fr P σ σ') (hP : ∀ q, P q → P' q) : Fr P' σ σ' := fun q hq => h q (fun hp => hq (hP q hp))
theorem fr_write {P : Nat → Prop} {σ σ' : Sg} {k : Nat} {x y : Int32} (h : Fr P σ σ') (hk : P (k + 1)) : Fr P σ (s_X1_write σ' k x y) := by
  unfold s_X1_write
  repeat' split
  · exact h
  · exact h
  · exact h.up hk
theorem fr_add {P : Nat → Prop} {σ σ' : Sg} {k : Nat} {x y w : Int32} (h : Fr P σ σ') (hk : P k) (hk1 : P (k + 1)) : Fr P σ (s_X1_add σ' k x y w) := by
  unfold s_X1_add
  split <;> exact fr_write (fr_write (fr_write (h.up hk) hk1) hk1) hk1
theorem fr_drop {P : Nat → Prop} {σ σ' : Sg} {k : Nat} (h : Fr P σ σ') (hk : P k) : Fr P σ (s_X1_dropLatest σ' k) := by
  unfold s_X1_dropLatest
  split
  · exact h
  · exact h.up hk
theorem fr_book {P : Nat → Prop} {σ σ' : Sg} {k : Nat} {x y : Int32} (h : Fr P σ σ') (hk : P k) : Fr P σ (s_X4_book σ' k x y) := by
  unfold s_X4_book
  repeat' split
  · exact h.up hk
  · exact h.up hk
  · exact h.up hk
  · exact h
theorem fr_move {P : Nat → Prop} {σ σ' : Sg} {k : Nat} {x y w : Int32} (h : Fr P σ σ') (hk : P k) : Fr P σ (s_X4_move σ' k x y w) := by
  unfold s_X4_move
  repeat' split
  · exact ((((fr_book h hk).up hk).up hk).up hk).up hk
  · exact (((((fr_book h hk).up hk).up hk).up hk).up hk).up hk
  · exact (((((fr_book h hk).up hk).up hk).up hk).up hk).up hk
theorem fr_sense {P : Nat → Prop} {σ σ' : Sg} {k : Nat} {x y w : Int32} (h : Fr P σ σ') (hk : P k) (hk1 : P (k + 1)) (hk2 : P (k + 2)) : Fr P σ (s_X4_sense σ' k x y w) := by
  unfold s_X4_sense
  split
  · exact fr_move (fr_add (h.up hk) hk1 hk2) hk
  · exact fr_move (fr_add h hk1 hk2) hk
theorem fr_passMark {P : Nat → Prop} {σ σ' : Sg} {k : Nat} {x : Int32} (h : Fr P σ σ') (hk : P k) : Fr P σ (s_X4_passMark σ' k x) := by
  unfold s_X4_passMark
  split <;> exact ((h.up hk).up hk).up hk
theorem fr_gretrace {P : Nat → Prop} {σ : Sg} {k : Nat} {x : Int32} (hk : P k) (hk1 : P (k + 1)) : ∀ (n i : Nat) (σ' : Sg), Fr P σ σ' → Fr P σ (gs_X4_retrace k x n i σ') := by
  intro n
  induction n with
  | zero => exact fun i σ' h => h
  | succ n ih =>
    intro i σ' h
    rw [gs_X4_retrace]
    split
    · exact h
    · exact ih _ _ (fr_drop (fr_move h hk) hk1)
theorem fr_retrace {P : Nat → Prop} {σ σ' : Sg} {k : Nat} {x : Int32} (h : Fr P σ σ') (hk : P k) (hk1 : P (k + 1)) : Fr P σ (s_X4_retrace σ' k x) := fr_gretrace hk hk1 _ _ _ h
/-- lengths stay lengths -/
theorem TXA.fr {P : Nat → Prop} {σ σ' : Sg} (h : TXA σ) (hF : Fr P σ σ') (hP : ∀ q, kd q = 2 → ¬ P q) : TXA σ' := fun q hq => by rw [hF q (hP q hq)]; exact h q hq
theorem LGA.fr {P : Nat → Prop} {σ σ' : Sg} (h : LGA σ) (hF : Fr P σ σ') (hP : ∀ q, kd q = 1 → ¬ P q) : LGA σ' := fun q hq => by rw [hF q (hP q hq)]; exact h q hq
abbrev sn (k : Nat) : Nat → Prop := fun q => q = k ∨ q = k + 1 ∨ q = k + 2
theorem sn_not2 {k : Nat} (hk : kd k = 4) : ∀ q, kd q = 2 → ¬ sn k q := by
  intro q hq h
  rcases h with rfl | rfl | rfl
  · omega
  · have := kd4_1 hk; omega
  · have : kd (k + 2) = 7 := kd1_1 (kd4_1 hk)
    omega
theorem wr_ne {σ : Sg} {k q : Nat} {x y : Int32} (h : q ≠ k + 1) : s_X1_write σ k x y q = σ q := fr_write (P := fun q => q = k + 1) (σ := σ) Fr.rf rfl q h
theorem LGA_add {σ : Sg} {k : Nat} {x y w : Int32} (h : LGA σ) (hk : kd k = 1) : LGA (s_X1_add σ k x y w) := by
  intro q hq
  have h7 := kd1_1 hk
  have hq1 : q ≠ k + 1 := fun e => by rw [e] at hq; omega
  obtain ⟨L, hL, e⟩ := h k hk
  unfold s_X1_add
  split
  · rename_i c
    rw [wr_ne hq1, wr_ne hq1, wr_ne hq1]
    by_cases hqk : q = k
    · subst hqk
      exact ⟨L, hL, by simp [up, e]⟩
    · rw [up_ne hqk]
      exact h q hq
  · rename_i c
    rw [wr_ne hq1, wr_ne hq1, wr_ne hq1]
    by_cases hqk : q = k
    · subst hqk
      have hlt : L < 16 := by
        rw [e] at c
        have := mt (cI_le (x := 16) (y := nI L) (a := 16) (b := L) rfl rfl (by omega) (by omega)).mpr c
        omega
      exact ⟨L + 1, by omega, by simp [up, e, nI_1]⟩
    · rw [up_ne hqk]
      exact h q hq
theorem LGA_up4 {σ : Sg} {k j : Nat} {v : Int32} (h : LGA σ) (hk : kd k = 4) : LGA (up σ k j v) := h.fr (P := fun q => q = k) (Fr.rf.up rfl) (fun q hq e => by subst e; omega)
theorem LGA_move {σ : Sg} {k : Nat} {x y w : Int32} (h : LGA σ) (hk : kd k = 4) : LGA (s_X4_move σ k x y w) := h.fr (P := fun q => q = k) (fr_move Fr.rf rfl) (fun q hq e => by subst e; omega)
theorem LGA_passMark {σ : Sg} {k : Nat} {x : Int32} (h : LGA σ) (hk : kd k = 4) : LGA (s_X4_passMark σ k x) := h.fr (P := fun q => q = k) (fr_passMark Fr.rf rfl) (fun q hq e => by subst e; omega)
theorem LGA_sense {σ : Sg} {k : Nat} {x y w : Int32} (h : LGA σ) (hk : kd k = 4) : LGA (s_X4_sense σ k x y w) := by
  unfold s_X4_sense
  split
  · exact LGA_move (LGA_add (LGA_up4 h hk) (kd4_1 hk)) hk
  · exact LGA_move (LGA_add h (kd4_1 hk)) hk
theorem LGA_drop {σ : Sg} {k : Nat} (h : LGA σ) (hk : kd k = 1) : LGA (s_X1_dropLatest σ k) := by
  intro q hq
  obtain ⟨L, hL, e⟩ := h k hk
  unfold s_X1_dropLatest
  split
  · exact h q hq
  · rename_i c
    by_cases hqk : q = k
    · subst hqk
      have hpos : 0 < L := by
        rw [e] at c
        have := mt (cI_le (x := nI L) (y := 0) (a := L) (b := 0) rfl rfl (by omega) (by omega)).mpr c
        omega
      obtain ⟨L', rfl⟩ : ∃ L', L = L' + 1 := ⟨L - 1, by omega⟩
      exact ⟨L', by omega, by simp [up, e, nI_pred]⟩
    · rw [up_ne hqk]
      exact h q hq
theorem LGA_gretrace {k : Nat} {x : Int32} (hk : kd k = 4) : ∀ (n i : Nat) (σ : Sg), LGA σ → LGA (gs_X4_retrace k x n i σ) := by
  intro n
  induction n with
  | zero => exact fun i σ' h => h
  | succ n ih =>
    intro i σ' h
    rw [gs_X4_retrace]
    split
    · exact h
    · exact ih _ _ (LGA_drop (LGA_move h hk) (kd4_1 hk))
theorem LGA_retrace {σ : Sg} {k : Nat} {x : Int32} (h : LGA σ) (hk : kd k = 4) : LGA (s_X4_retrace σ k x) := LGA_gretrace hk _ _ _ h
end
section
theorem cw_X5_leader : cwVt yX5_leader cX5_leader 3 (some .int) 5 0 := ⟨(mA3 (i := 66) rfl rfl), (mA3 (i := 67) rfl rfl), (mA1 (i := 1) rfl rfl), (mA3 (i := 68) rfl rfl), by decide +kernel, ⟨_, rfl, rfl⟩, by decide⟩
abbrev rm_X5_leader : Room := { frames := 1, cells := 0, slots := 0, locals := 21 }
def gf_X5_leader (σ : Sg) (k : Nat) : Nat → Int32 → Nat → Int32
  | 0, _, _ => 0
  | n + 1, x, i =>
    if 4 ≤ i then
      x
    else
      if (σ (f_X0_snail σ (k + 1) (nI i)) 2) ≤ (σ (f_X0_snail σ (k + 1) x) 2) then
        gf_X5_leader σ k n x (i + 1)
      else
        gf_X5_leader σ k n (nI i) (i + 1)
set_option maxHeartbeats 4000000 in
set_option maxRecDepth 100000 in
theorem lp_X5_leader {p : Program} {l : Launch} {e : Env} {s : State} {m : MethodId} {args : Array Value} {below : List Frame} {meth : Method} {c : Code} {D : va_G} {cy : Nat → ClassId} {z : Nat} (C : Bd p s m args meth c cX5_leader 3 (some .int) RX5 D cy z) (o : Int64) (d : UInt64) {k : Nat} (hk : kd k = 5)  {r9 : Int32} :
    ∀ (n : Nat) (x : Int32) (i : Nat) (σ τ : Sg) (H : Heap) (locs : List Loc), (i ≤ 4 ∧ 5 ≤ i + n) → (gf_X5_leader σ k n x i = r9) → WP D cy z σ τ o d H → va_S (fz z) s.heap H locs → ∀ ls : Array Slot, lv_has ls 3 [(0, .ref (z + k)), (1, .int x), (2, .int (nI i))] → W p l e rm_X5_leader s m args below meth c H locs 0 0 (MQ below (PoI D cy z o d r9 σ τ) args s 0 0 (fz z)) (F0 m 4 ls []) := by
  obtain ⟨hx, hb, hr, hml, hown, hW, hlocks, hAm⟩ := id C
  intro n
  induction n with
  | zero =>
    intro _ _ σ τ H locs hn9 _ hP hS ls hl
    exact absurd hn9 (by omega)
  | succ n ih =>
    intro x i σ τ H locs hn9 hr9 hP hS ls hl
    refine lv_iload_n hx hb dX5_leader_4 rfl (lv_at hl 2 rfl) ?_
    refine lv_iconst (v := 4) hx hb dX5_leader_5 (by decide) ?_
    refine lv_icmp_ge (tgt := 42) hx hb dX5_leader_6 (by decide) (fun c_6 => ?_) (fun c_6 => ?_)
    · have d_6 : 4 ≤ i := (cI_le (a := 4) (b := i) rfl rfl (by omega) (by omega)).mp c_6
      refine lv_iload_n hx hb dX5_leader_42 rfl (lv_at hl 1 rfl) ?_
      exact ret_I C hP hS (nar_i _) rfl (by rw [← hr9, gf_X5_leader]; rw [if_pos d_6]) rfl rfl dX5_leader_43
    · have d_6 : ¬ (4 ≤ i) := fun h9 => c_6 ((cI_le (a := 4) (b := i) rfl rfl (by omega) (by omega)).mpr h9)
      refine lv_aload_n hx hb dX5_leader_9 rfl (lv_at hl 0 rfl) ?_
      refine gf_X5_10 C hP hk dX5_leader_10 ?_
      refine lv_iload_n hx hb dX5_leader_13 rfl (lv_at hl 2 rfl) ?_
      refine thn_R (run_V (As := [.int (nI i)]) (rest := []) C (k_X0_snail l D cy z o d σ τ (kd5_1 hk) (nI i)) hP hS cw_X0_snail (mA2 (i := 30) rfl rfl) (kd5_1 hk) ⟨rfl, rfl⟩ ⟨Nat.le_of_ble_eq_true rfl, Nat.le_of_ble_eq_true rfl⟩ rfl (Nat.le_of_ble_eq_true rfl) hl.1 ⟨Nat.zero_le _, Nat.zero_le _⟩ dX5_leader_14) hS (fun H locs hP hS => ?_)
      refine gf_X5_84 C hP (kr_X0_snail σ (kd5_1 hk) (nI i)) dX5_leader_17 ?_
      refine lv_aload_n hx hb dX5_leader_20 rfl (lv_at hl 0 rfl) ?_
      refine gf_X5_10 C hP hk dX5_leader_21 ?_
      refine lv_iload_n hx hb dX5_leader_24 rfl (lv_at hl 1 rfl) ?_
      refine thn_R (run_V (As := [.int x]) (rest := [.int (σ (f_X0_snail σ (k + 1) (nI i)) 2)]) C (k_X0_snail l D cy z o d σ τ (kd5_1 hk) x) hP hS cw_X0_snail (mA2 (i := 30) rfl rfl) (kd5_1 hk) ⟨rfl, rfl⟩ ⟨Nat.le_of_ble_eq_true rfl, Nat.le_of_ble_eq_true rfl⟩ rfl (Nat.le_of_ble_eq_true rfl) hl.1 ⟨Nat.zero_le _, Nat.zero_le _⟩ dX5_leader_25) hS (fun H locs hP hS => ?_)
      refine gf_X5_84 C hP (kr_X0_snail σ (kd5_1 hk) x) dX5_leader_28 ?_
      refine lv_icmp_le (tgt := 36) hx hb dX5_leader_31 (by decide) (fun c_31 => ?_) (fun c_31 => ?_)
      · refine lv_iinc (v := nI (i + 1)) (lv' := [(2, .int (nI (i + 1))), (0, .ref (z + k)), (1, .int x)]) hx hb dX5_leader_36 hl (k := 2) rfl (nI_1 i) (by decide) rfl (fun ls hl => ?_)
        refine lv_goto (tgt := 4) hx hb dX5_leader_39 (by decide) ?_
        exact ih x (i + 1) σ τ _ _ (⟨by omega, by omega⟩) (by rw [← hr9, gf_X5_leader]; rw [if_neg d_6, if_pos c_31]) hP hS ls (lv_sub hl [1, 2, 0] rfl)
      · refine lv_iload_n hx hb dX5_leader_34 rfl (lv_at hl 2 rfl) ?_
        refine lv_istore_n (lv' := [(1, .int (nI i)), (0, .ref (z + k)), (2, .int (nI i))]) hx hb dX5_leader_35 rfl hl (by decide) rfl (fun ls hl => ?_)
        refine lv_iinc (v := nI (i + 1)) (lv' := [(2, .int (nI (i + 1))), (1, .int (nI i)), (0, .ref (z + k))]) hx hb dX5_leader_36 hl (k := 2) rfl (nI_1 i) (by decide) rfl (fun ls hl => ?_)
        refine lv_goto (tgt := 4) hx hb dX5_leader_39 (by decide) ?_
        exact ih (nI i) (i + 1) σ τ _ _ (⟨by omega, by omega⟩) (by rw [← hr9, gf_X5_leader]; rw [if_neg d_6, if_neg c_31]) hP hS ls (lv_sub hl [2, 1, 0] rfl)
def f_X5_leader (σ : Sg) (k : Nat) : Int32 :=
  gf_X5_leader σ k 4 0 1
set_option maxHeartbeats 4000000 in
set_option maxRecDepth 100000 in
theorem k_X5_leader (l : Launch) (D : va_G) (cy : Nat → ClassId) (z : Nat) (o : Int64) (d : UInt64) (σ τ : Sg) {k : Nat} (hk : kd k = 5) : KI l yX5_leader cX5_leader 3 (some .int) rm_X5_leader D cy z [.ref (z + k)] o d σ τ (f_X5_leader σ k) σ τ := by
  refine met_of RX5 (plainFor_of_name (by decide)) rfl (Nat.le_of_ble_eq_true rfl) ?_
  intro p e s m args below meth c C hP hS ls hl
  obtain ⟨hx, hb, hr, hml, hown, hW, hlocks, hAm⟩ := id C
  have hl : lv_has ls 3 [(0, .ref (z + k))] := hl
  refine lv_iconst (v := 0) hx hb dX5_leader_0 (by decide) ?_
  refine lv_istore_n (lv' := [(1, .int 0), (0, .ref (z + k))]) hx hb dX5_leader_1 rfl hl (by decide) rfl (fun ls hl => ?_)
  refine lv_iconst (v := 1) hx hb dX5_leader_2 (by decide) ?_
  refine lv_istore_n (lv' := [(2, .int 1), (1, .int 0), (0, .ref (z + k))]) hx hb dX5_leader_3 rfl hl (by decide) rfl (fun ls hl => ?_)
  exact lp_X5_leader C o d hk  (4) 0 1 σ τ _ _ (⟨by omega, by omega⟩) rfl hP hS ls (lv_sub hl [2, 1, 0] rfl)

theorem cw_X5_counts : cwVt yX5_counts cX5_counts 1 (some .int) 5 0 := ⟨(mA2 (i := 214) rfl rfl), (mA2 (i := 215) rfl rfl), (mA1 (i := 1) rfl rfl), (mA2 (i := 216) rfl rfl), by decide +kernel, ⟨_, rfl, rfl⟩, by decide⟩
abbrev rm_X5_counts : Room := { frames := 0, cells := 0, slots := 0, locals := 0 }
def f_X5_counts (σ : Sg) (k : Nat) : Int32 :=
  σ (k + 1) 5
set_option maxHeartbeats 4000000 in
set_option maxRecDepth 100000 in
theorem k_X5_counts (l : Launch) (D : va_G) (cy : Nat → ClassId) (z : Nat) (o : Int64) (d : UInt64) (σ τ : Sg) {k : Nat} (hk : kd k = 5) : KI l yX5_counts cX5_counts 1 (some .int) rm_X5_counts D cy z [.ref (z + k)] o d σ τ (f_X5_counts σ k) σ τ := by
  refine met_of RX5 (plainFor_of_name (by decide)) rfl (Nat.le_of_ble_eq_true rfl) ?_
  intro p e s m args below meth c C hP hS ls hl
  obtain ⟨hx, hb, hr, hml, hown, hW, hlocks, hAm⟩ := id C
  have hl : lv_has ls 1 [(0, .ref (z + k))] := hl
  refine lv_aload_n hx hb dX5_counts_0 rfl (lv_at hl 0 rfl) ?_
  refine gf_X5_10 C hP hk dX5_counts_1 ?_
  refine gf_X5_87 C hP (kd5_1 hk) dX5_counts_4 ?_
  exact ret_I C hP hS (nar_i _) rfl rfl rfl rfl dX5_counts_7

theorem cw_X5_rule : cwVt yX5_rule cX5_rule 1 (some .int) 5 0 := ⟨(mA2 (i := 186) rfl rfl), (mA2 (i := 187) rfl rfl), (mA1 (i := 1) rfl rfl), (mA2 (i := 188) rfl rfl), by decide +kernel, ⟨_, rfl, rfl⟩, by decide⟩
abbrev rm_X5_rule : Room := { frames := 0, cells := 0, slots := 0, locals := 0 }
def f_X5_rule (σ : Sg) (k : Nat) : Int32 :=
  σ (k + 1) 4
set_option maxHeartbeats 4000000 in
set_option maxRecDepth 100000 in
theorem k_X5_rule (l : Launch) (D : va_G) (cy : Nat → ClassId) (z : Nat) (o : Int64) (d : UInt64) (σ τ : Sg) {k : Nat} (hk : kd k = 5) : KI l yX5_rule cX5_rule 1 (some .int) rm_X5_rule D cy z [.ref (z + k)] o d σ τ (f_X5_rule σ k) σ τ := by
  refine met_of RX5 (plainFor_of_name (by decide)) rfl (Nat.le_of_ble_eq_true rfl) ?_
  intro p e s m args below meth c C hP hS ls hl
  obtain ⟨hx, hb, hr, hml, hown, hW, hlocks, hAm⟩ := id C
  have hl : lv_has ls 1 [(0, .ref (z + k))] := hl
  refine lv_aload_n hx hb dX5_rule_0 rfl (lv_at hl 0 rfl) ?_
  refine gf_X5_10 C hP hk dX5_rule_1 ?_
  refine gf_X5_51 C hP (kd5_1 hk) dX5_rule_4 ?_
  exact ret_I C hP hS (nar_i _) rfl rfl rfl rfl dX5_rule_7
end
section
/-! methods that throw: the tag of what is thrown (0: nothing), and the room by it -/
def exN : Nat → String
  | 1 => "java/lang/IndexOutOfBoundsException"
  | 2 => "java/lang/IllegalArgumentException"
  | _ => "java/lang/IllegalStateException"
abbrev exS : List String := ["java/lang/RuntimeException", "java/lang/Exception"]
def tcc (t : Nat) : Nat := if t = 0 then 0 else 1
def tcs (t : Nat) : Nat := if t = 0 then 0 else 6
theorem tcc_n {t : Nat} (h : t ≠ 0) : tcc t = 1 := if_neg h
theorem tcs_n {t : Nat} (h : t ≠ 0) : tcs t = 6 := if_neg h
abbrev rmT (f lo t : Nat) : Room := { frames := f, cells := tcc t, slots := tcs t, locals := lo }
def XP (D : va_G) (cy : Nat → ClassId) (z : Nat) (o : Int64) (d : UInt64) (t : Nat) (σ τ : Sg) : String → State → State → Prop := vx_X (fun _ : Unit => True) (fun E _ U => t ≠ 0 ∧ E = exN t ∧ WP D cy z σ τ o d U.heap) (fun q => z ≤ q)
def PoTI (D : va_G) (cy : Nat → ClassId) (z : Nat) (o : Int64) (d : UInt64) (t : Nat) (r : Int32) (σ τ : Sg) : Array Value → State → Outcome → State → Prop := va_Qi (fun (x : Int32) (_ : Unit) => t = 0 ∧ x = r) (fun _ U => WP D cy z σ τ o d U.heap) (fun q => z ≤ q)
def PoTV (D : va_G) (cy : Nat → ClassId) (z : Nat) (o : Int64) (d : UInt64) (t : Nat) (σ τ : Sg) : Array Value → State → Outcome → State → Prop := va_Qv (fun (_ : Unit) => t = 0) (fun _ U => WP D cy z σ τ o d U.heap) (fun q => z ≤ q)
def PoTR (D : va_G) (cy : Nat → ClassId) (z : Nat) (o : Int64) (d : UInt64) (t : Nat) (r : Nat) (σ τ : Sg) : Array Value → State → Outcome → State → Prop := va_Qr (fun (_ : Unit) => t = 0) (fun _ a U => a = z + r ∧ WP D cy z σ τ o d U.heap) (fun q => z ≤ q)
def PoTD (D : va_G) (cy : Nat → ClassId) (z : Nat) (o : Int64) (d : UInt64) (t : Nat) (r : UInt64) (σ τ : Sg) : Array Value → State → Outcome → State → Prop := va_Qd (fun (x : UInt64) (_ : Unit) => t = 0 ∧ x = r) (fun _ U => WP D cy z σ τ o d U.heap) (fun q => z ≤ q)
def KT (l : Launch) (y : MethodName) (bc : ByteArray) (nl : Nat) (rt : Option FieldType) (f lo : Nat) (D : va_G) (cy : Nat → ClassId) (z : Nat) (As : List Value) (o : Int64) (d : UInt64) (σ τ : Sg) (t : Nat) (Qc : Array Value → State → Outcome → State → Prop) (σ' τ' : Sg) : Prop :=
  vx_Met l y (.code y bc nl rt :: WA) (rmT f lo t) (Pre D cy z As σ τ o d) Qc (XP D cy z o d t σ' τ') (tcc t) (tcs t) (fz z)
def Nox (c : Code) : Prop := ∀ x ∈ c.exceptionTable.toList, False
theorem Nox.out {c : Code} (h : Nox c) (pc : Nat) : ∀ x ∈ c.exceptionTable.toList, covers x pc = false := fun x hx => (h x hx).elim
theorem metT_of {l : Launch} {y : MethodName} {bc : ByteArray} {nl : Nat} {rt : Option FieldType} {rm : Room} {D : va_G} {cy : Nat → ClassId} {z : Nat} {As : List Value} {o : Int64} {d : UInt64} {σ τ : Sg} {Qc : Array Value → State → Outcome → State → Prop} {XC : String → State → State → Prop} {mc ms : Nat} (own : String) (hy : plainName y.cls = true) (ho : y.cls = own) (hn : (lg_sl As).length ≤ nl)
    (body : ∀ p e s m args below meth c, Bd p s m args meth c bc nl rt own D cy z → Nox c → WP D cy z σ τ o d s.heap → va_S (fz z) s.heap s.heap [] → ∀ ls : Array Slot, lv_has ls nl (lv_args 0 As) → W p l e rm s m args below meth c s.heap [] 0 0 (vx_MQ below Qc XC args s mc ms (fz z)) (F0 m 0 ls [])) :
    vx_Met l y (.code y bc nl rt :: WA) rm (Pre D cy z As σ τ o d) Qc XC mc ms (fz z) := by
  refine vx_ofW (cc := bc) (maxL := nl) (ret := rt) hy rfl ?_
  intro p e s m args below meth c s₁ B hml hno hv
  obtain ⟨rfl, hP, hAm⟩ := hv
  have hts := atoms_spec (ws := .code y bc nl rt :: WA) B.pre
  have hown : s.vm.findClass own = some m.cls := by rw [← ho]; exact findClass_of_methodNamed B.named
  rw [lg_entry_eq]
  exact body p e s m As.toArray below meth c ⟨B.exec, B.bytes, B.returns, hml, hown, fun w h => hts w (List.mem_cons_of_mem _ h), B.notSynchronized, hAm⟩ hno hP va_S.rf _ (lv_entry As hn)
theorem WP.kept {D : va_G} {cy : Nat → ClassId} {z : Nat} {σ τ : Sg} {o : Int64} {d : UInt64} {H H1 : Heap} (h : WP D cy z σ τ o d H) (hq : ∀ q : Nat, q < H.size → H1[q]? = H[q]?) : WP D cy z σ τ o d H1 :=
  va_P.kept h (fun k q hk => hq q.1 (h k q hk).lt)
section RowsT
variable {p : Program} {l : Launch} {e : Env} {Rm : Room} {s : State} {m : MethodId} {args : Array Value} {below : List Frame} {meth : Method} {c : Code} {H : Heap} {locs : List Loc} {cells slots : Nat} {Q : State → Prop}
variable {cc : ByteArray} {nl : Nat} {rt : Option FieldType} {own : String} {D : va_G} {cy : Nat → ClassId} {z : Nat} {σ τ σ' τ' σ1 τ1 : Sg} {o : Int64} {d : UInt64} {pc : Nat} {ls : Array Slot} {rest st : List Value} {Qc : Array Value → State → Outcome → State → Prop} {f lo t t' : Nat}
/-- 'throw new E("..")' -/
theorem thr_X5 (C : Bd p s m args meth c cc nl rt RX5 D cy z) (hno : Nox c) (hfl : l.stackTraces = false) (hP : WP D cy z σ τ o d H) (hS : va_S (fz z) s.heap H locs) {ik is ic T : Nat} {text : String} (ht : t = T) (hT : T ≠ 0) (hst : (is, text) ∈ strW) (hk : Cond.classLink RX5 ik (exN T) ∈ WA) (hini : Cond.initialized (exN T) ∈ WA) (hcls : Bundle.fit (exN T) = true)
    (hat : ∀ w ∈ (vx_atS RX5 ic (exN T) exS).filter goodWord, w ∈ WA) (hbad : ∀ w ∈ (vx_atS RX5 ic (exN T) exS).filter (fun w => !goodWord w), w ∈ nestW) (hgood : ∀ w ∈ Cond.classLink RX5 ik (exN T) :: Cond.initialized (exN T) :: vx_atS RX5 ic (exN T) exS, vx_ot w = true) (hsz : ls.size = nl)
    (d0 : decode cc pc = .ok (.new ik, 3)) (d3 : decode cc (pc + 3) = .ok (.dup, 1)) (d4 : decode cc (pc + 4) = .ok (.ldc is, 2)) (d6 : decode cc (pc + 6) = .ok (.invokespecial ic, 3)) (d9 : decode cc (pc + 9) = .ok (.athrow, 1)) (hf5 : 6 ≤ f) (hlo : (rest.map fun v => v.category).sum + 82 ≤ lo) (hσ : σ = σ1) (hτ : τ = τ1) :
    W p l e (rmT f lo t) s m args below meth c H locs 0 0 (vx_MQ below Qc (XP D cy z o d t σ1 τ1) args s (tcc t) (tcs t) (fz z)) (F0 m pc ls rest) := by
  subst ht
  subst hσ
  subst hτ
  obtain ⟨hx, hb, hr, hml, hown, hW, hlocks, hAm⟩ := C
  obtain ⟨sa, hsa⟩ := hAm.2.2.1 _ hst
  have hA := hAm
  refine vx_throwS (A := fz z) hx hb hfl hown hcls (by decide) (hW _ hk) (hW _ hini) hsa (vx_hat (fun w h => hW w (hat w h)) hbad (fun w h => va_Nw.use (nw_onT (List.all_eq_true.mp nestW_ok w h)) (hAm.2.1 w h))) hgood hA.2.2.2.1 hA.2.2.2.2 hS (by rw [hml, hsz]) d0 d3 d4 d6 d9 (hno.out _) ?_ ?_ ?_ ?_ hlocks ?_ hS.2.2 ?_ ?_
  · show 2 + 3 < f
    omega
  · show _ + (13 * (2 + 1) + 43) ≤ lo
    omega
  · show 0 + 1 ≤ tcc t
    rw [tcc_n hT]
    exact Nat.le_refl _
  · show 0 + 6 ≤ tcs t
    rw [tcs_n hT]
    exact Nat.le_refl _
  · intro u hvm hz hq
    refine ⟨(), trivial, ⟨hT, rfl, hP.kept hq⟩, Nat.le_trans hS.1 hz, fun q h1 h2 => ?_⟩
    rw [hq q (Nat.lt_of_lt_of_le h1 hS.1)]
    exact hS.2.1 q h1 h2
  · rw [tcc_n hT]
    exact Nat.le_refl _
  · rw [tcs_n hT]
    exact Nat.le_refl _
theorem retT_I (C : Bd p s m args meth c cc nl rt own D cy z) {r v : Int32} {ty : FieldType} (hP : WP D cy z σ τ o d H) (hS : va_S (fz z) s.heap H locs) (hn : narrow ty (.int v) = .int v) (hrt : rt = some ty) (ht : t = 0) (hv : v = r) (hσ : σ = σ1) (hτ : τ = τ1) (hdg : decode cc pc = .ok (.ireturn, 1)) {XC : String → State → State → Prop} :
    W p l e Rm s m args below meth c H locs 0 0 (vx_MQ below (PoTI D cy z o d t r σ1 τ1) XC args s (tcc t) (tcs t) (fz z)) (F0 m pc ls [.int v]) := by
  obtain ⟨hx, hb, hr, hml, hown, hW, hlocks, hAm⟩ := C
  subst hσ
  subst hτ
  subst ht
  exact vx_ret (W.zret (ty := ty) hx hb (by rw [hr, hrt]) hn (fun t ht hW => ⟨⟨v, (), rfl, ⟨rfl, hv⟩, by show WP D cy z σ τ o d t.heap; rw [ht]; exact hP⟩, hS.F ht⟩) hS.2.2 hdg hlocks)
theorem retT_D (C : Bd p s m args meth c cc nl (some .double) own D cy z) {r v : UInt64} (hP : WP D cy z σ τ o d H) (hS : va_S (fz z) s.heap H locs) (ht : t = 0) (hv : v = r) (hσ : σ = σ1) (hτ : τ = τ1) (hdg : decode cc pc = .ok (.dreturn, 1)) {XC : String → State → State → Prop} :
    W p l e Rm s m args below meth c H locs 0 0 (vx_MQ below (PoTD D cy z o d t r σ1 τ1) XC args s (tcc t) (tcs t) (fz z)) (F0 m pc ls [.double v]) := by
  obtain ⟨hx, hb, hr, hml, hown, hW, hlocks, hAm⟩ := C
  subst hσ
  subst hτ
  subst ht
  exact vx_ret (W.dret hx hb hr (fun t ht hW => ⟨⟨v, (), rfl, ⟨rfl, hv⟩, by show WP D cy z σ τ o d t.heap; rw [ht]; exact hP⟩, hS.F ht⟩) hS.2.2 hdg hlocks)
theorem retT_V (C : Bd p s m args meth c cc nl none own D cy z) (hP : WP D cy z σ τ o d H) (hS : va_S (fz z) s.heap H locs) (ht : t = 0) (hσ : σ = σ1) (hτ : τ = τ1) (hdg : decode cc pc = .ok (.return_, 1)) {XC : String → State → State → Prop} :
    W p l e Rm s m args below meth c H locs 0 0 (vx_MQ below (PoTV D cy z o d t σ1 τ1) XC args s (tcc t) (tcs t) (fz z)) (F0 m pc ls []) := by
  obtain ⟨hx, hb, hr, hml, hown, hW, hlocks, hAm⟩ := C
  subst hσ
  subst hτ
  subst ht
  exact vx_ret (W.vret hx hb hr (fun t ht hW => ⟨⟨(), rfl, rfl, by show WP D cy z σ τ o d t.heap; rw [ht]; exact hP⟩, hS.F ht⟩) hS.2.2 hdg hlocks)
theorem retT_R (C : Bd p s m args meth c cc nl rt own D cy z) {r v : Nat} {nm : String} (hP : WP D cy z σ τ o d H) (hS : va_S (fz z) s.heap H locs) (hrt : rt = some (.object nm)) (ht : t = 0) (hv : v = r) (hσ : σ = σ1) (hτ : τ = τ1) (hdg : decode cc pc = .ok (.areturn, 1)) {XC : String → State → State → Prop} :
    W p l e Rm s m args below meth c H locs 0 0 (vx_MQ below (PoTR D cy z o d t r σ1 τ1) XC args s (tcc t) (tcs t) (fz z)) (F0 m pc ls [.ref (z + v)]) := by
  obtain ⟨hx, hb, hr, hml, hown, hW, hlocks, hAm⟩ := C
  subst hσ
  subst hτ
  subst hv
  subst ht
  exact vx_ret (W.aret (rt := .object nm) hx hb (by rw [hr, hrt]) (Or.inl ⟨_, rfl⟩) (Or.inr ⟨_, rfl⟩) (fun t ht hW => ⟨⟨(), _, rfl, rfl, rfl, by show WP D cy z σ τ o d t.heap; rw [ht]; exact hP⟩, hS.F ht⟩) hS.2.2 hdg hlocks)
/-- a call of a method that may throw -/
theorem runT_V (C : Bd p s m args meth c cc nl rt own D cy z) {y : MethodName} {bc : ByteArray} {nl' : Nat} {rt' : Option FieldType} {As : List Value} {kr ci idx : Nat}
    (hM : KT l y bc nl' rt' f lo D cy z (.ref (z + kr) :: As) o d σ τ t Qc σ' τ') (hP : WP D cy z σ τ o d H) (hS : va_S (fz z) s.heap H locs) (cw : cwVt y bc nl' rt' ci As.length) (ml : Cond.methodLink own idx y ∈ WA) (hk : kd kr = ci)
    (hR : f + 1 ≤ Rm.frames ∧ 8 + (nl' + 11) + lo ≤ Rm.locals) (hst : st = As.reverse ++ .ref (z + kr) :: rest) (hrest : (rest.map fun v => v.category).sum ≤ 8) (hsz : ls.size = nl) (hcs : cells + tcc t ≤ Rm.cells ∧ slots + tcs t ≤ Rm.slots) (hdg : decode cc pc = .ok (.invokevirtual idx, 3)) :
    vx_Run p l e Rm s m args below meth c H locs cells slots (tcc t) (tcs t) (F0 m pc ls st) rest (Qc (Value.ref (z + kr) :: As).toArray) (XP D cy z o d t σ' τ') (fz z) := by
  obtain ⟨hx, hb, hr, hml, hown, hW, hlocks, hAm⟩ := C
  obtain ⟨w1, w2, w3, w4, ⟨hy1, hy2, hy3⟩, ⟨q, hq1, hq2⟩, h6⟩ := cw
  obtain ⟨fs, he⟩ := ent_obj (z := z) (cy := cy) (σ := σ) (τ := τ) (o := o) (d := d) hk h6
  have hrecv : ∃ cell : Cell, H[z + kr]? = some cell ∧ cell.vm.isStatics = false ∧ s.vm.findClass y.cls = some cell.cls := by
    rw [← hq2]
    exact va_recv hAm.1 hP (ci := ci) (q0 := kr) hq1 (by rw [mwl_at (kd_lt (by omega)), he])
  exact vx_runV (As := As) (rest := rest) ⟨hx, hb, hml, hown, hW⟩ hM (cwV (C := y.cls) As.length hW (wa_app (ws := [.methodLink own idx y, .instanceMethod y, .selects y.cls y y, .initialized y.cls]) (by
    intro w hw
    simp only [List.mem_cons, List.not_mem_nil, or_false] at hw
    rcases hw with rfl | rfl | rfl | rfl <;> assumption) w4) rfl rfl rfl ⟨rfl, hy1, hy2, hy3⟩ hR)
    ⟨Pre.blind, hrecv, fun U hU hW' => ⟨rfl, by rw [hU]; exact hP, hAm.warm hW' (by rw [hU]; exact hS.2.1)⟩⟩ rfl rfl hsz hst (lv_room hrest) hdg hcs
theorem runT_S (C : Bd p s m args meth c cc nl rt own D cy z) {y : MethodName} {bc : ByteArray} {nl' : Nat} {rt' : Option FieldType} {As : List Value} {idx : Nat}
    (hM : KT l y bc nl' rt' f lo D cy z As o d σ τ t Qc σ' τ') (hP : WP D cy z σ τ o d H) (hS : va_S (fz z) s.heap H locs) (cw : cwSt y bc nl' rt' As.length) (ml : Cond.methodLink own idx y ∈ WA)
    (hR : f + 1 ≤ Rm.frames ∧ 8 + (nl' + 11) + lo ≤ Rm.locals) (hst : st = As.reverse ++ rest) (hrest : (rest.map fun v => v.category).sum ≤ 8) (hsz : ls.size = nl) (hcs : cells + tcc t ≤ Rm.cells ∧ slots + tcs t ≤ Rm.slots) (hdg : decode cc pc = .ok (.invokestatic idx, 3)) :
    vx_Run p l e Rm s m args below meth c H locs cells slots (tcc t) (tcs t) (F0 m pc ls st) rest (Qc As.toArray) (XP D cy z o d t σ' τ') (fz z) := by
  obtain ⟨hx, hb, hr, hml, hown, hW, hlocks, hAm⟩ := C
  obtain ⟨w1, w3, w4, hy1, hy2, hy3⟩ := cw
  exact vx_runS (As := As) (rest := rest) ⟨hx, hb, hml, hown, hW⟩ hM (va_cwS As.length hW (wa_app (ws := [.methodLink own idx y, .static y, .initialized y.cls]) (by
    intro w hw
    simp only [List.mem_cons, List.not_mem_nil, or_false] at hw
    rcases hw with rfl | rfl | rfl <;> assumption) w4) rfl rfl rfl ⟨hy1, hy2, hy3⟩ hR)
    ⟨Pre.blind, fun U hU hW' => ⟨rfl, by rw [hU]; exact hP, hAm.warm hW' (by rw [hU]; exact hS.2.1)⟩⟩ rfl rfl hsz hst (lv_room hrest) hdg hcs
theorem tcc_0 (h : t = 0) (hc : cells ≤ Rm.cells ∧ slots ≤ Rm.slots) : cells + tcc t ≤ Rm.cells ∧ slots + tcs t ≤ Rm.slots := by
  subst h
  exact hc
theorem tcc_e (h : t' = t) : 0 + tcc t ≤ (rmT f lo t').cells ∧ 0 + tcs t ≤ (rmT f lo t').slots := by
  subst h
  exact ⟨by show 0 + tcc t' ≤ tcc t'; omega, by show 0 + tcs t' ≤ tcs t'; omega⟩
/-- it returns -/
theorem okT_I {st0 : List Value} {a : Array Value} {r : Int32} (h0 : t = 0) (hr : vx_Run p l e Rm s m args below meth c H locs cells slots (tcc t) (tcs t) (F0 m pc ls st0) rest (PoTI D cy z o d t r σ' τ' a) (XP D cy z o d t σ' τ') (fz z)) (hS : va_S (fz z) s.heap H locs)
    (kk : ∀ (H1 : Heap) (locs1 : List Loc), WP D cy z σ' τ' o d H1 → va_S (fz z) s.heap H1 locs1 → W p l e Rm s m args below meth c H1 locs1 cells slots Q (F0 m (pc + 3) ls (.int r :: rest))) : W p l e Rm s m args below meth c H locs cells slots Q (F0 m pc ls st0) := by
  subst h0
  exact vx_calli hr hS (fun _ _ h => h) (fun _ h => h) (fun _ _ h => h) (fun E ce q9 u t H1 locs1 _ _ _ hB => (hB.1 rfl).elim) (fun r1 u t H1 locs1 ht hvm hpost hB hz hk1 hS1 => by
    obtain ⟨-, rfl⟩ := hpost
    rw [ht] at hB
    exact kk H1 locs1 hB hS1)
theorem okT_D {st0 : List Value} {a : Array Value} {r : UInt64} (h0 : t = 0) (hr : vx_Run p l e Rm s m args below meth c H locs cells slots (tcc t) (tcs t) (F0 m pc ls st0) rest (PoTD D cy z o d t r σ' τ' a) (XP D cy z o d t σ' τ') (fz z)) (hS : va_S (fz z) s.heap H locs)
    (kk : ∀ (H1 : Heap) (locs1 : List Loc), WP D cy z σ' τ' o d H1 → va_S (fz z) s.heap H1 locs1 → W p l e Rm s m args below meth c H1 locs1 cells slots Q (F0 m (pc + 3) ls (.double r :: rest))) : W p l e Rm s m args below meth c H locs cells slots Q (F0 m pc ls st0) := by
  subst h0
  exact vx_calld hr hS (fun _ _ h => h) (fun _ h => h) (fun _ _ h => h) (fun E ce q9 u t H1 locs1 _ _ _ hB => (hB.1 rfl).elim) (fun r1 u t H1 locs1 ht hvm hpost hB hz hk1 hS1 => by
    obtain ⟨-, rfl⟩ := hpost
    rw [ht] at hB
    exact kk H1 locs1 hB hS1)
theorem okT_V {st0 : List Value} {a : Array Value} (h0 : t = 0) (hr : vx_Run p l e Rm s m args below meth c H locs cells slots (tcc t) (tcs t) (F0 m pc ls st0) rest (PoTV D cy z o d t σ' τ' a) (XP D cy z o d t σ' τ') (fz z)) (hS : va_S (fz z) s.heap H locs)
    (kk : ∀ (H1 : Heap) (locs1 : List Loc), WP D cy z σ' τ' o d H1 → va_S (fz z) s.heap H1 locs1 → W p l e Rm s m args below meth c H1 locs1 cells slots Q (F0 m (pc + 3) ls rest)) : W p l e Rm s m args below meth c H locs cells slots Q (F0 m pc ls st0) := by
  subst h0
  exact vx_callv hr hS (fun _ _ h => h) (fun _ h => h) (fun _ _ h => h) (fun E ce q9 u t H1 locs1 _ _ _ hB => (hB.1 rfl).elim) (fun u t H1 locs1 ht hvm hpost hB hz hk1 hS1 => by
    rw [ht] at hB
    exact kk H1 locs1 hB hS1)
theorem okT_R {st0 : List Value} {a : Array Value} {r : Nat} (h0 : t = 0) (hr : vx_Run p l e Rm s m args below meth c H locs cells slots (tcc t) (tcs t) (F0 m pc ls st0) rest (PoTR D cy z o d t r σ' τ' a) (XP D cy z o d t σ' τ') (fz z)) (hS : va_S (fz z) s.heap H locs)
    (kk : ∀ (H1 : Heap) (locs1 : List Loc), WP D cy z σ' τ' o d H1 → va_S (fz z) s.heap H1 locs1 → W p l e Rm s m args below meth c H1 locs1 cells slots Q (F0 m (pc + 3) ls (.ref (z + r) :: rest))) : W p l e Rm s m args below meth c H locs cells slots Q (F0 m pc ls st0) := by
  subst h0
  intro T hT X
  rcases hr T hT X with ⟨v, st₀, t, T', L, h0, X', hL, e1, e2, ⟨⟨u, ra, hv, hp, hb⟩, hz, hk⟩, st⟩ | ⟨q, st₀, t, T', L, E, ce, h0, X', hL, e1, e2, ⟨u, hp, hb, hF⟩, hce, hcv, hcl, st⟩
  · cases hv
    obtain ⟨rfl, hB⟩ := hb
    rw [h0] at hz hk
    rw [← e1] at hB hz hk
    obtain ⟨t2, a1, b1⟩ := kk T'.heap (locs ++ L) hB ⟨Nat.le_trans hS.1 hz, fun q h1 h2 => by rw [hk q (Nat.lt_of_lt_of_le h1 hS.1) h2]; exact hS.2.1 q h1 h2, fun q hq => by
      rcases List.mem_append.mp hq with h | h
      · exact hS.2.2 q h
      · exact hL q h⟩ T' rfl X'
    exact ⟨t2, st t2 a1, b1⟩
  · exact (hb.1 rfl).elim
/-- it throws, and so does this method -/
theorem outT {st0 : List Value} {Qa : State → Outcome → State → Prop} (hr : vx_Run p l e (rmT f lo t') s m args below meth c H locs 0 0 (tcc t) (tcs t) (F0 m pc ls st0) rest Qa (XP D cy z o d t σ' τ') (fz z)) (h0 : ∀ st v u, Qa st (.returned v) u → t = 0) (hn : t ≠ 0) (ht : t' = t) (hno : Nox c) (hlocks : meth.locks = false) (hS : va_S (fz z) s.heap H locs) (hσ : σ' = σ1) (hτ : τ' = τ1) :
    W p l e (rmT f lo t') s m args below meth c H locs 0 0 (vx_MQ below Qc (XP D cy z o d t' σ1 τ1) args s (tcc t') (tcs t') (fz z)) (F0 m pc ls st0) := by
  subst ht
  subst hσ
  subst hτ
  intro T hT X
  rcases hr T hT X with ⟨v, st₀, u, T', L, _, X', hL, e1, e2, hq, st⟩ | ⟨q, st₀, u, T', L, E, ce, g0, X', hL, e1, e2, ⟨w, hp, ⟨hb1, hb2, hb3⟩, hz, hk⟩, hce, hcv, hcl, st⟩
  · exact absurd (h0 _ _ _ hq) hn
  · subst hb2
    rw [g0] at hz hk
    rw [← e1] at hb3 hz hk hce
    have hS1 : va_S (fz z) s.heap T'.heap (locs ++ L) := ⟨Nat.le_trans hS.1 hz, fun q h1 h2 => by rw [hk q (Nat.lt_of_lt_of_le h1 hS.1) h2]; exact hS.2.1 q h1 h2, fun q hq => by
      rcases List.mem_append.mp hq with h | h
      · exact hS.2.2 q h
      · exact hL q h⟩
    obtain ⟨t2, a1, b1⟩ := vx_out (Qc := Qc) (XC := XP D cy z o d t' σ' τ') (free := fz z) (mc := tcc t') (ms := tcs t') (rest := rest) (ls := ls) (pc := pc) (hno.out _) hlocks hce hcv hcl (fun u9 hu _ => ⟨(), trivial, ⟨hb1, rfl, by show WP D cy z σ' τ' o d u9.heap; rw [hu]; exact hb3⟩, hS1.F hu⟩) hS1.2.2 (by omega) (by omega) T' rfl X'
    exact ⟨t2, st.trans a1, b1⟩
theorem z_I {r : Int32} {a : Array Value} : ∀ st v u, PoTI D cy z o d t r σ' τ' a st (.returned v) u → t = 0 := fun _ _ _ h => h.1.choose_spec.choose_spec.2.1.1
theorem z_D {r : UInt64} {a : Array Value} : ∀ st v u, PoTD D cy z o d t r σ' τ' a st (.returned v) u → t = 0 := fun _ _ _ h => h.1.choose_spec.choose_spec.2.1.1
theorem z_V {a : Array Value} : ∀ st v u, PoTV D cy z o d t σ' τ' a st (.returned v) u → t = 0 := fun _ _ _ h => h.1.choose_spec.2.1
theorem z_R {r : Nat} {a : Array Value} : ∀ st v u, PoTR D cy z o d t r σ' τ' a st (.returned v) u → t = 0 := fun _ _ _ h => h.1.choose_spec.choose_spec.2.1
end RowsT
theorem vxa_x1 : ∀ w ∈ (vx_atS RX5 192 "java/lang/IndexOutOfBoundsException" exS).filter goodWord, w ∈ lw_tbl := by decide +kernel
theorem vxa_x2 : ∀ w ∈ (vx_atS RX5 48 "java/lang/IllegalArgumentException" exS).filter goodWord, w ∈ lw_tbl := by decide +kernel
theorem vxa_x3 : ∀ w ∈ (vx_atS RX5 103 "java/lang/IllegalStateException" exS).filter goodWord, w ∈ lw_tbl := by decide +kernel
theorem vxb_x1 : ∀ w ∈ (vx_atS RX5 192 "java/lang/IndexOutOfBoundsException" exS).filter (fun w => !goodWord w), w ∈ nestW := by decide +kernel
theorem vxb_x2 : ∀ w ∈ (vx_atS RX5 48 "java/lang/IllegalArgumentException" exS).filter (fun w => !goodWord w), w ∈ nestW := by decide +kernel
theorem vxb_x3 : ∀ w ∈ (vx_atS RX5 103 "java/lang/IllegalStateException" exS).filter (fun w => !goodWord w), w ∈ nestW := by decide +kernel
theorem vxc_x1 : ∀ w ∈ Cond.classLink RX5 188 "java/lang/IndexOutOfBoundsException" :: Cond.initialized "java/lang/IndexOutOfBoundsException" :: vx_atS RX5 192 "java/lang/IndexOutOfBoundsException" exS, vx_ot w = true := by decide +kernel
theorem vxc_x2 : ∀ w ∈ Cond.classLink RX5 44 "java/lang/IllegalArgumentException" :: Cond.initialized "java/lang/IllegalArgumentException" :: vx_atS RX5 48 "java/lang/IllegalArgumentException" exS, vx_ot w = true := by decide +kernel
theorem vxc_x3 : ∀ w ∈ Cond.classLink RX5 99 "java/lang/IllegalStateException" :: Cond.initialized "java/lang/IllegalStateException" :: vx_atS RX5 103 "java/lang/IllegalStateException" exS, vx_ot w = true := by decide +kernel
theorem vxw {L : List Cond} (h : ∀ w ∈ L.filter goodWord, w ∈ lw_tbl) : ∀ w ∈ L.filter goodWord, w ∈ WA := fun w hw => List.mem_filter.mpr ⟨h w hw, (List.mem_filter.mp hw).2⟩
theorem vxi_1 : Cond.classLink RX5 188 (exN 1) ∈ WA ∧ Cond.initialized (exN 1) ∈ WA ∧ Bundle.fit (exN 1) = true := ⟨(mA1 (i := 202) rfl rfl), (mA1 (i := 10) rfl rfl), by decide⟩
theorem vxi_2 : Cond.classLink RX5 44 (exN 2) ∈ WA ∧ Cond.initialized (exN 2) ∈ WA ∧ Bundle.fit (exN 2) = true := ⟨(mA2 (i := 37) rfl rfl), (mA1 (i := 11) rfl rfl), by decide⟩
theorem vxi_3 : Cond.classLink RX5 99 (exN 3) ∈ WA ∧ Cond.initialized (exN 3) ∈ WA ∧ Bundle.fit (exN 3) = true := ⟨(mA2 (i := 108) rfl rfl), (mA1 (i := 13) rfl rfl), by decide⟩
end
section
theorem cw_X5_snailNumbered : cwVt yX5_snailNumbered cX5_snailNumbered 2 (some (.object "QuadSnail$Snail")) 5 1 := ⟨(mA1 (i := 200) rfl rfl), (mA0 (i := 0) rfl rfl), (mA1 (i := 1) rfl rfl), (mA1 (i := 201) rfl rfl), by decide +kernel, ⟨_, rfl, rfl⟩, by decide⟩
def f_X5_snailNumbered (σ : Sg) (k : Nat) (x : Int32) : Nat :=
  if x < 0 then
    (k + 1) + 1
  else
    if x < 4 then
      f_X0_snail σ (k + 1) x
    else
      (k + 1) + 1
def x_X5_snailNumbered (σ : Sg) (k : Nat) (x : Int32) : Nat :=
  if x < 0 then
    1
  else
    if x < 4 then
      0
    else
      1
set_option maxHeartbeats 4000000 in
set_option maxRecDepth 100000 in
theorem k_X5_snailNumbered (l : Launch) (hfl : l.stackTraces = false) (D : va_G) (cy : Nat → ClassId) (z : Nat) (o : Int64) (d : UInt64) (σ τ : Sg) {k : Nat} (hk : kd k = 5) (x : Int32) : KT l yX5_snailNumbered cX5_snailNumbered 2 (some (.object "QuadSnail$Snail")) 6 82 D cy z [.ref (z + k), .int x] o d σ τ (x_X5_snailNumbered σ k x) (PoTR D cy z o d (x_X5_snailNumbered σ k x) (f_X5_snailNumbered σ k x) σ τ) σ τ := by
  refine metT_of RX5 (by decide) rfl (Nat.le_of_ble_eq_true rfl) ?_
  intro p e s m args below meth c C hno hP hS ls hl
  obtain ⟨hx, hb, hr, hml, hown, hW, hlocks, hAm⟩ := id C
  have hl : lv_has ls 2 [(0, .ref (z + k)), (1, .int x)] := hl
  refine lv_iload_n hx hb dX5_snailNumbered_0 rfl (lv_at hl 1 rfl) ?_
  refine lv_if_lt (tgt := 9) hx hb dX5_snailNumbered_1 (by decide) (fun c_1 => ?_) (fun c_1 => ?_)
  · exact thr_X5 C hno hfl hP hS (ik := 188) (is := 212) (ic := 192) (T := 1) (text := "no such snail") (by unfold x_X5_snailNumbered; rw [if_pos c_1]) (by decide) (by decide) vxi_1.1 vxi_1.2.1 vxi_1.2.2 (vxw vxa_x1) vxb_x1 vxc_x1 hl.1 dX5_snailNumbered_9 dX5_snailNumbered_12 dX5_snailNumbered_13 dX5_snailNumbered_15 dX5_snailNumbered_18 (by decide) (by decide) rfl rfl
  · refine lv_iload_n hx hb dX5_snailNumbered_4 rfl (lv_at hl 1 rfl) ?_
    refine lv_iconst (v := 4) hx hb dX5_snailNumbered_5 (by decide) ?_
    refine lv_icmp_lt (tgt := 19) hx hb dX5_snailNumbered_6 (by decide) (fun c_6 => ?_) (fun c_6 => ?_)
    · refine lv_aload_n hx hb dX5_snailNumbered_19 rfl (lv_at hl 0 rfl) ?_
      refine gf_X5_10 C hP hk dX5_snailNumbered_20 ?_
      refine lv_iload_n hx hb dX5_snailNumbered_23 rfl (lv_at hl 1 rfl) ?_
      refine thn_R (run_V (As := [.int x]) (rest := []) C (k_X0_snail l D cy z o d σ τ (kd5_1 hk) x) hP hS cw_X0_snail (mA2 (i := 30) rfl rfl) (kd5_1 hk) ⟨rfl, rfl⟩ ⟨Nat.le_of_ble_eq_true rfl, Nat.le_of_ble_eq_true rfl⟩ rfl (Nat.le_of_ble_eq_true rfl) hl.1 ⟨Nat.zero_le _, Nat.zero_le _⟩ dX5_snailNumbered_24) hS (fun H locs hP hS => ?_)
      exact retT_R C hP hS rfl (by unfold x_X5_snailNumbered; rw [if_neg c_1, if_pos c_6]) (by unfold f_X5_snailNumbered; rw [if_neg c_1, if_pos c_6]) rfl rfl dX5_snailNumbered_27
    · exact thr_X5 C hno hfl hP hS (ik := 188) (is := 212) (ic := 192) (T := 1) (text := "no such snail") (by unfold x_X5_snailNumbered; rw [if_neg c_1, if_neg c_6]) (by decide) (by decide) vxi_1.1 vxi_1.2.1 vxi_1.2.2 (vxw vxa_x1) vxb_x1 vxc_x1 hl.1 dX5_snailNumbered_9 dX5_snailNumbered_12 dX5_snailNumbered_13 dX5_snailNumbered_15 dX5_snailNumbered_18 (by decide) (by decide) rfl rfl
theorem kr_X5_snailNumbered (σ : Sg) {k : Nat} (hk : kd k = 5) (x : Int32) : kd (f_X5_snailNumbered σ k x) = 4 := by
  unfold f_X5_snailNumbered
  repeat' split
  all_goals first | exact kr_X0_snail σ (kd5_1 hk) _ | exact kd0_1 (kd5_1 hk)

theorem cw_X5_demandState : cwSt yX5_demandState cX5_demandState 1 none 1 := ⟨(mA2 (i := 35) rfl rfl), (mA1 (i := 1) rfl rfl), (mA2 (i := 36) rfl rfl), by decide +kernel⟩
def x_X5_demandState  (x : Int32) : Nat :=
  if x < 0 then
    2
  else
    if x < 4 then
      0
    else
      2
set_option maxHeartbeats 4000000 in
set_option maxRecDepth 100000 in
theorem k_X5_demandState (l : Launch) (hfl : l.stackTraces = false) (D : va_G) (cy : Nat → ClassId) (z : Nat) (o : Int64) (d : UInt64) (σ τ : Sg) (x : Int32) : KT l yX5_demandState cX5_demandState 1 none 6 82 D cy z [.int x] o d σ τ (x_X5_demandState x) (PoTV D cy z o d (x_X5_demandState x) σ τ) σ τ := by
  refine metT_of RX5 (by decide) rfl (Nat.le_of_ble_eq_true rfl) ?_
  intro p e s m args below meth c C hno hP hS ls hl
  obtain ⟨hx, hb, hr, hml, hown, hW, hlocks, hAm⟩ := id C
  have hl : lv_has ls 1 [(0, .int x)] := hl
  refine lv_iload_n hx hb dX5_demandState_0 rfl (lv_at hl 0 rfl) ?_
  refine lv_if_lt (tgt := 9) hx hb dX5_demandState_1 (by decide) (fun c_1 => ?_) (fun c_1 => ?_)
  · exact thr_X5 C hno hfl hP hS (ik := 44) (is := 214) (ic := 48) (T := 2) (text := "state out of range") (by unfold x_X5_demandState; rw [if_pos c_1]) (by decide) (by decide) vxi_2.1 vxi_2.2.1 vxi_2.2.2 (vxw vxa_x2) vxb_x2 vxc_x2 hl.1 dX5_demandState_9 dX5_demandState_12 dX5_demandState_13 dX5_demandState_15 dX5_demandState_18 (by decide) (by decide) rfl rfl
  · refine lv_iload_n hx hb dX5_demandState_4 rfl (lv_at hl 0 rfl) ?_
    refine lv_iconst (v := 4) hx hb dX5_demandState_5 (by decide) ?_
    refine lv_icmp_lt (tgt := 19) hx hb dX5_demandState_6 (by decide) (fun c_6 => ?_) (fun c_6 => ?_)
    · exact retT_V C hP hS (by unfold x_X5_demandState; rw [if_neg c_1, if_pos c_6]) rfl rfl dX5_demandState_19
    · exact thr_X5 C hno hfl hP hS (ik := 44) (is := 214) (ic := 48) (T := 2) (text := "state out of range") (by unfold x_X5_demandState; rw [if_neg c_1, if_neg c_6]) (by decide) (by decide) vxi_2.1 vxi_2.2.1 vxi_2.2.2 (vxw vxa_x2) vxb_x2 vxc_x2 hl.1 dX5_demandState_9 dX5_demandState_12 dX5_demandState_13 dX5_demandState_15 dX5_demandState_18 (by decide) (by decide) rfl rfl

theorem cw_X5_demandRoom : cwSt yX5_demandRoom cX5_demandRoom 3 none 3 := ⟨(mA2 (i := 101) rfl rfl), (mA1 (i := 1) rfl rfl), (mA2 (i := 102) rfl rfl), by decide +kernel⟩
def x_X5_demandRoom (σ : Sg) (j : Nat) (x : Int32) (y : Int32) : Nat :=
  if (f_X4_hasRoom σ j x y) = 0 then
    3
  else
    0
set_option maxHeartbeats 4000000 in
set_option maxRecDepth 100000 in
theorem k_X5_demandRoom (l : Launch) (hfl : l.stackTraces = false) (D : va_G) (cy : Nat → ClassId) (z : Nat) (o : Int64) (d : UInt64) (σ τ : Sg) (j : Nat) (hk_j : kd j = 4) (x : Int32) (y : Int32) : KT l yX5_demandRoom cX5_demandRoom 3 none 6 82 D cy z [.ref (z + j), .int x, .int y] o d σ τ (x_X5_demandRoom σ j x y) (PoTV D cy z o d (x_X5_demandRoom σ j x y) σ τ) σ τ := by
  refine metT_of RX5 (by decide) rfl (Nat.le_of_ble_eq_true rfl) ?_
  intro p e s m args below meth c C hno hP hS ls hl
  obtain ⟨hx, hb, hr, hml, hown, hW, hlocks, hAm⟩ := id C
  have hl : lv_has ls 3 [(0, .ref (z + j)), (1, .int x), (2, .int y)] := hl
  refine lv_aload_n hx hb dX5_demandRoom_0 rfl (lv_at hl 0 rfl) ?_
  refine lv_iload_n hx hb dX5_demandRoom_1 rfl (lv_at hl 1 rfl) ?_
  refine lv_iload_n hx hb dX5_demandRoom_2 rfl (lv_at hl 2 rfl) ?_
  refine thn_I (run_V (As := [.int x, .int y]) (rest := []) C (k_X4_hasRoom l D cy z o d σ τ hk_j x y) hP hS cw_X4_hasRoom (mA2 (i := 103) rfl rfl) hk_j ⟨rfl, rfl⟩ ⟨Nat.le_of_ble_eq_true rfl, Nat.le_of_ble_eq_true rfl⟩ rfl (Nat.le_of_ble_eq_true rfl) hl.1 ⟨Nat.zero_le _, Nat.zero_le _⟩ dX5_demandRoom_3) hS (fun H locs hP hS => ?_)
  refine lv_if_ne (tgt := 19) hx hb dX5_demandRoom_6 (by decide) (fun c_6 => ?_) (fun c_6 => ?_)
  · exact retT_V C hP hS (by unfold x_X5_demandRoom; rw [if_neg c_6]) rfl rfl dX5_demandRoom_19
  · exact thr_X5 C hno hfl hP hS (ik := 99) (is := 220) (ic := 103) (T := 3) (text := "ticks or distance too great") (by unfold x_X5_demandRoom; rw [if_pos c_6]) (by decide) (by decide) vxi_3.1 vxi_3.2.1 vxi_3.2.2 (vxw vxa_x3) vxb_x3 vxc_x3 hl.1 dX5_demandRoom_9 dX5_demandRoom_12 dX5_demandRoom_13 dX5_demandRoom_15 dX5_demandRoom_18 (by decide) (by decide) rfl rfl
end
section
theorem fr_gcopy1 {P : Nat → Prop} {σ : Sg} {k j : Nat} (hk : P k) (hk1 : P (k + 1)) : ∀ (n i : Nat) (σ' : Sg), Fr P σ σ' → Fr P σ (gs_X1_copyFrom k j n i σ') := by
  intro n
  induction n with
  | zero => exact fun i σ' h => h
  | succ n ih =>
    intro i σ' h
    rw [gs_X1_copyFrom]
    split
    · exact (h.up hk).up hk
    · exact ih _ _ (h.up hk1)
theorem fr_copy1 {P : Nat → Prop} {σ σ' : Sg} {k j : Nat} (h : Fr P σ σ') (hk : P k) (hk1 : P (k + 1)) : Fr P σ (s_X1_copyFrom σ' k j) := fr_gcopy1 hk hk1 _ _ _ h
theorem fr_copy4 {P : Nat → Prop} {σ σ' : Sg} {k j : Nat} (h : Fr P σ σ') (hk : P k) (hk1 : P (k + 1)) (hk2 : P (k + 2)) : Fr P σ (s_X4_copyFrom σ' k j) := by
  unfold s_X4_copyFrom
  exact (((((((((((fr_copy1 h hk1 hk2).up hk).up hk).up hk).up hk).up hk).up hk).up hk).up hk).up hk).up hk).up hk
/-- the cells of a garden -/
abbrev gd (k : Nat) : Nat → Prop := fun q => k ≤ q ∧ q < k + 13
theorem fr_copy0 {P : Nat → Prop} {σ σ' : Sg} {k j : Nat} (h : Fr P σ σ') (hk : ∀ q, gd k q → P q) : Fr P σ (s_X0_copyFrom σ' k j) := by
  unfold s_X0_copyFrom
  have H : ∀ i, i < 13 → P (k + i) := fun i hi => hk _ ⟨Nat.le_add_right _ _, by omega⟩
  have hk0 : P k := H 0 (by omega)
  exact ((fr_copy4 (fr_copy4 (fr_copy4 (fr_copy4 h (H 1 (by omega)) (H 2 (by omega)) (H 3 (by omega))) (H 4 (by omega)) (H 5 (by omega)) (H 6 (by omega))) (H 7 (by omega)) (H 8 (by omega)) (H 9 (by omega))) (H 10 (by omega)) (H 11 (by omega)) (H 12 (by omega))).up hk0).up hk0
theorem kr_any {σ : Sg} {k : Nat} (hk : kd k = 3) : kd (f_X3_latest σ k) = 0 := kr_X3_latest σ hk
/-- a garden's cells are none of the others -/
theorem gd_kd {k : Nat} (hk : kd k = 0) : ∀ q, gd k q → kd q = 0 ∨ kd q = 4 ∨ kd q = 1 ∨ kd q = 7 := by
  have key : ∀ k, k < 95 → kd k = 0 → ∀ i, i < 13 → kd (k + i) = 0 ∨ kd (k + i) = 4 ∨ kd (k + i) = 1 ∨ kd (k + i) = 7 := by decide +kernel
  intro q hq
  obtain ⟨h1, h2⟩ := hq
  have := key k (kd_lt (by rw [hk]; decide)) hk (q - k) (by omega)
  rwa [show k + (q - k) = q by omega] at this
theorem TXA_copy0 {σ : Sg} {k j : Nat} (h : TXA σ) (hk : kd k = 0) : TXA (s_X0_copyFrom σ k j) := h.fr (P := fun q => kd q ≠ 2) (fr_copy0 Fr.rf (fun q hq => by have := gd_kd hk q hq; omega)) (fun q hq h => h hq)
theorem LGA_up {σ : Sg} {k j : Nat} {v : Int32} (h : LGA σ) (hj : j ≠ 2) : LGA (up σ k j v) := by
  intro q hq
  obtain ⟨L, hL, e⟩ := h q hq
  exact ⟨L, hL, by simp [up, Ne.symm hj, e]⟩
theorem LGA_up7 {σ : Sg} {k j : Nat} {v : Int32} (h : LGA σ) (hk : kd k ≠ 1) : LGA (up σ k j v) := h.fr (P := fun q => q = k) (Fr.rf.up rfl) (fun q hq e => by subst e; omega)
theorem LGA_set {σ : Sg} {k j : Nat} (h : LGA σ) (hj : kd j = 1) : LGA (up σ k 2 (σ j 2)) := by
  intro q hq
  by_cases hqk : q = k
  · obtain ⟨L, hL, e⟩ := h j hj
    exact ⟨L, hL, by simp [up, hqk, e]⟩
  · rw [up_ne hqk]
    exact h q hq
theorem LGA_gcopy1 {k j : Nat} (hk : kd k = 1) (hj : kd j = 1) : ∀ (n i : Nat) (σ : Sg), LGA σ → LGA (gs_X1_copyFrom k j n i σ) := by
  intro n
  induction n with
  | zero => exact fun i σ h => h
  | succ n ih =>
    intro i σ h
    rw [gs_X1_copyFrom]
    split
    · exact LGA_set (LGA_up h (by decide)) hj
    · exact ih _ _ (LGA_up7 h (by have := kd1_1 hk; omega))
theorem LGA_copy4 {σ : Sg} {k j : Nat} (h : LGA σ) (hk : kd k = 4) (hj : kd j = 4) : LGA (s_X4_copyFrom σ k j) := by
  unfold s_X4_copyFrom
  have h0 : LGA (s_X1_copyFrom σ (k + 1) (j + 1)) := LGA_gcopy1 (kd4_1 hk) (kd4_1 hj) _ _ _ h
  exact LGA_up4 (LGA_up4 (LGA_up4 (LGA_up4 (LGA_up4 (LGA_up4 (LGA_up4 (LGA_up4 (LGA_up4 (LGA_up4 (LGA_up4 h0 hk) hk) hk) hk) hk) hk) hk) hk) hk) hk) hk
theorem LGA_copy0 {σ : Sg} {k j : Nat} (h : LGA σ) (hk : kd k = 0) (hj : kd j = 0) : LGA (s_X0_copyFrom σ k j) := by
  unfold s_X0_copyFrom
  exact LGA_up7 (LGA_up7 (LGA_copy4 (LGA_copy4 (LGA_copy4 (LGA_copy4 h (kd0_1 hk) (kd0_1 hj)) (kd0_4 hk) (kd0_4 hj)) (kd0_7 hk) (kd0_7 hj)) (kd0_10 hk) (kd0_10 hj)) (by omega)) (by omega)
theorem TXA_up {σ : Sg} {k j : Nat} {v : Int32} (h : TXA σ) (hk : kd k ≠ 2) : TXA (up σ k j v) := h.fr (P := fun q => q = k) (Fr.rf.up rfl) (fun q hq e => by subst e; omega)
theorem LGA_keep {σ : Sg} {k j : Nat} (h : LGA σ) (hk : kd k = 3) (hj : kd j = 0) : LGA (s_X3_keep σ k j) := by
  unfold s_X3_keep
  split <;> exact LGA_copy0 (LGA_up7 h (by omega)) (kr_X3_latest _ hk) hj
theorem TXA_keep {σ : Sg} {k j : Nat} (h : TXA σ) (hk : kd k = 3) : TXA (s_X3_keep σ k j) := by
  unfold s_X3_keep
  split <;> exact TXA_copy0 (TXA_up h (by omega)) (kr_X3_latest _ hk)
theorem rng16 {x : Int32} (h1 : ¬ x < 1) (h2 : x ≤ 16) : -1000 ≤ x.toInt ∧ x.toInt ≤ 1000000 := by
  have a := Int32.le_iff_toInt_le.mp (Int32.not_lt.mp h1)
  have b := Int32.le_iff_toInt_le.mp h2
  rw [show (1 : Int32).toInt = 1 from rfl] at a
  rw [show (16 : Int32).toInt = 16 from rfl] at b
  omega
theorem sz100 {x : Int32} (h1 : ¬ x < (-100)) (h2 : x ≤ 100) : ab x = nI (ab x).toNatClampNeg ∧ (ab x).toNatClampNeg ≤ 100 := by
  have a := Int32.le_iff_toInt_le.mp (Int32.not_lt.mp h1)
  have b := Int32.le_iff_toInt_le.mp h2
  rw [show (-100 : Int32).toInt = -100 from rfl] at a
  rw [show (100 : Int32).toInt = 100 from rfl] at b
  have hab : 0 ≤ (ab x).toInt ∧ (ab x).toInt ≤ 100 := by
    unfold ab
    split
    · rename_i h
      have h3 := Int32.le_iff_toInt_le.mp h
      rw [show (0 : Int32).toInt = 0 from rfl] at h3
      omega
    · rename_i h
      have h3 := Int32.lt_iff_toInt_lt.mp (Int32.not_le.mp h)
      rw [show (0 : Int32).toInt = 0 from rfl] at h3
      rw [Int32.toInt_sub, show (0 : Int32).toInt = 0 from rfl, Int.bmod_eq_of_le (by omega) (by omega)]
      omega
  have h4 := (i32_nat (ab x)).2 hab.1
  refine ⟨?_, by omega⟩
  apply Int32.toInt_inj.mp
  rw [nI_toInt (by omega), h4]
end
section
theorem cw_X5_feel : cwVt yX5_feel cX5_feel 6 (some .int) 5 3 := ⟨(mA2 (i := 93) rfl rfl), (mA2 (i := 94) rfl rfl), (mA1 (i := 1) rfl rfl), (mA2 (i := 95) rfl rfl), by decide +kernel, ⟨_, rfl, rfl⟩, by decide⟩
def f_X5_feel (σ : Sg) (k : Nat) (x : Int32) (y : Int32) (w : Int32) : Int32 :=
  if x_X5_snailNumbered σ k x = 0 then
    if x_X5_demandState y = 0 then
      if w < 1 then
        0
      else
        if w ≤ 1000 then
          if x_X5_demandRoom σ (f_X5_snailNumbered σ k x) w (ab (f_X4_stepUnder σ (f_X5_snailNumbered σ k x) (σ (k + 1) 4) y)) = 0 then
            f_X4_stepUnder σ (f_X5_snailNumbered σ k x) (σ (k + 1) 4) y
          else
            0
        else
          0
    else
      0
  else
    0
def s_X5_feel (σ : Sg) (k : Nat) (x : Int32) (y : Int32) (w : Int32) : Sg :=
  if x_X5_snailNumbered σ k x = 0 then
    if x_X5_demandState y = 0 then
      if w < 1 then
        σ
      else
        if w ≤ 1000 then
          if x_X5_demandRoom σ (f_X5_snailNumbered σ k x) w (ab (f_X4_stepUnder σ (f_X5_snailNumbered σ k x) (σ (k + 1) 4) y)) = 0 then
            s_X4_sense (s_X3_keep σ (k + 40) (k + 1)) (f_X5_snailNumbered σ k x) y (f_X4_stepUnder σ (f_X5_snailNumbered σ k x) (σ (k + 1) 4) y) w
          else
            σ
        else
          σ
    else
      σ
  else
    σ
def x_X5_feel (σ : Sg) (k : Nat) (x : Int32) (y : Int32) (w : Int32) : Nat :=
  if x_X5_snailNumbered σ k x = 0 then
    if x_X5_demandState y = 0 then
      if w < 1 then
        2
      else
        if w ≤ 1000 then
          if x_X5_demandRoom σ (f_X5_snailNumbered σ k x) w (ab (f_X4_stepUnder σ (f_X5_snailNumbered σ k x) (σ (k + 1) 4) y)) = 0 then
            0
          else
            x_X5_demandRoom σ (f_X5_snailNumbered σ k x) w (ab (f_X4_stepUnder σ (f_X5_snailNumbered σ k x) (σ (k + 1) 4) y))
        else
          2
    else
      x_X5_demandState y
  else
    x_X5_snailNumbered σ k x
set_option maxHeartbeats 4000000 in
set_option maxRecDepth 100000 in
theorem k_X5_feel (l : Launch) (hfl : l.stackTraces = false) (D : va_G) (cy : Nat → ClassId) (z : Nat) (o : Int64) (d : UInt64) (σ τ : Sg) {k : Nat} (hk : kd k = 5) (x : Int32) (y : Int32) (w : Int32) : KT l yX5_feel cX5_feel 6 (some .int) 7 104 D cy z [.ref (z + k), .int x, .int y, .int w] o d σ τ (x_X5_feel σ k x y w) (PoTI D cy z o d (x_X5_feel σ k x y w) (f_X5_feel σ k x y w) (s_X5_feel σ k x y w) τ) (s_X5_feel σ k x y w) τ := by
  refine metT_of RX5 (by decide) rfl (Nat.le_of_ble_eq_true rfl) ?_
  intro p e s m args below meth c C hno hP hS ls hl
  obtain ⟨hx, hb, hr, hml, hown, hW, hlocks, hAm⟩ := id C
  have hl : lv_has ls 6 [(0, .ref (z + k)), (1, .int x), (2, .int y), (3, .int w)] := hl
  refine lv_aload_n hx hb dX5_feel_0 rfl (lv_at hl 0 rfl) ?_
  refine lv_iload_n hx hb dX5_feel_1 rfl (lv_at hl 1 rfl) ?_
  by_cases c_2 : x_X5_snailNumbered σ k x = 0
  · refine okT_R c_2 (runT_V (As := [.int x]) (rest := []) C (k_X5_snailNumbered l hfl D cy z o d σ τ hk x) hP hS cw_X5_snailNumbered (mA1 (i := 198) rfl rfl) hk ⟨Nat.le_of_ble_eq_true rfl, Nat.le_of_ble_eq_true rfl⟩ rfl (Nat.le_of_ble_eq_true rfl) hl.1 (tcc_0 c_2 ⟨Nat.zero_le _, Nat.zero_le _⟩) dX5_feel_2) hS (fun H locs hP hS => ?_)
    refine lv_astore (lv' := [(4, .ref (z + (f_X5_snailNumbered σ k x))), (0, .ref (z + k)), (1, .int x), (2, .int y), (3, .int w)]) hx hb dX5_feel_5 hl (by decide) rfl (fun ls hl => ?_)
    refine lv_iload_n hx hb dX5_feel_7 rfl (lv_at hl 3 rfl) ?_
    by_cases c_8 : x_X5_demandState y = 0
    · refine okT_V c_8 (runT_S (As := [.int y]) (rest := []) C (k_X5_demandState l hfl D cy z o d σ τ y) hP hS cw_X5_demandState (mA2 (i := 34) rfl rfl) ⟨Nat.le_of_ble_eq_true rfl, Nat.le_of_ble_eq_true rfl⟩ rfl (Nat.le_of_ble_eq_true rfl) hl.1 (tcc_0 c_8 ⟨Nat.zero_le _, Nat.zero_le _⟩) dX5_feel_8) hS (fun H locs hP hS => ?_)
      refine lv_iload_n hx hb dX5_feel_11 rfl (lv_at hl 4 rfl) ?_
      refine lv_iconst (v := 1) hx hb dX5_feel_12 (by decide) ?_
      refine lv_icmp_lt (tgt := 23) hx hb dX5_feel_13 (by decide) (fun c_13 => ?_) (fun c_13 => ?_)
      · exact thr_X5 C hno hfl hP hS (ik := 44) (is := 46) (ic := 48) (T := 2) (text := "ticks out of range") (by unfold x_X5_feel; rw [if_pos c_2, if_pos c_8, if_pos c_13]) (by decide) (by decide) vxi_2.1 vxi_2.2.1 vxi_2.2.2 (vxw vxa_x2) vxb_x2 vxc_x2 hl.1 dX5_feel_23 dX5_feel_26 dX5_feel_27 dX5_feel_29 dX5_feel_32 (by decide) (by decide) (by unfold s_X5_feel; rw [if_pos c_2, if_pos c_8, if_pos c_13]) rfl
      · refine lv_iload_n hx hb dX5_feel_16 rfl (lv_at hl 4 rfl) ?_
        refine lv_sipush (v := 1000) hx hb dX5_feel_17 (by decide) ?_
        refine lv_icmp_le (tgt := 33) hx hb dX5_feel_20 (by decide) (fun c_20 => ?_) (fun c_20 => ?_)
        · refine lv_aload hx hb dX5_feel_33 (lv_at hl 0 rfl) ?_
          refine lv_aload_n hx hb dX5_feel_35 rfl (lv_at hl 1 rfl) ?_
          refine gf_X5_10 C hP hk dX5_feel_36 ?_
          refine gf_X5_51 C hP (kd5_1 hk) dX5_feel_39 ?_
          refine lv_iload_n hx hb dX5_feel_42 rfl (lv_at hl 3 rfl) ?_
          refine thn_I (run_V (As := [.int (σ (k + 1) 4), .int y]) (rest := []) C (k_X4_stepUnder l D cy z o d σ τ (kr_X5_snailNumbered σ hk x) (σ (k + 1) 4) y) hP hS cw_X4_stepUnder (mA2 (i := 53) rfl rfl) (kr_X5_snailNumbered σ hk x) ⟨rfl, rfl⟩ ⟨Nat.le_of_ble_eq_true rfl, Nat.le_of_ble_eq_true rfl⟩ rfl (Nat.le_of_ble_eq_true rfl) hl.1 ⟨Nat.zero_le _, Nat.zero_le _⟩ dX5_feel_43) hS (fun H locs hP hS => ?_)
          refine lv_istore (lv' := [(5, .int (f_X4_stepUnder σ (f_X5_snailNumbered σ k x) (σ (k + 1) 4) y)), (4, .ref (z + (f_X5_snailNumbered σ k x))), (0, .ref (z + k)), (1, .int x), (2, .int y), (3, .int w)]) hx hb dX5_feel_46 hl (by decide) rfl (fun ls hl => ?_)
          refine lv_aload hx hb dX5_feel_48 (lv_at hl 1 rfl) ?_
          refine lv_iload_n hx hb dX5_feel_50 rfl (lv_at hl 5 rfl) ?_
          refine lv_iload hx hb dX5_feel_51 (lv_at hl 0 rfl) ?_
          refine g_abs C (mA2 (i := 97) rfl rfl) (Nat.le_of_ble_eq_true rfl) (Nat.le_of_ble_eq_true rfl) ⟨Nat.zero_le _, Nat.zero_le _⟩ hl.1 dX5_feel_53 ?_
          by_cases c_56 : x_X5_demandRoom σ (f_X5_snailNumbered σ k x) w (ab (f_X4_stepUnder σ (f_X5_snailNumbered σ k x) (σ (k + 1) 4) y)) = 0
          · refine okT_V c_56 (runT_S (As := [.ref (z + (f_X5_snailNumbered σ k x)), .int w, .int (ab (f_X4_stepUnder σ (f_X5_snailNumbered σ k x) (σ (k + 1) 4) y))]) (rest := []) C (k_X5_demandRoom l hfl D cy z o d σ τ (f_X5_snailNumbered σ k x) (kr_X5_snailNumbered σ hk x) w (ab (f_X4_stepUnder σ (f_X5_snailNumbered σ k x) (σ (k + 1) 4) y))) hP hS cw_X5_demandRoom (mA2 (i := 100) rfl rfl) ⟨Nat.le_of_ble_eq_true rfl, Nat.le_of_ble_eq_true rfl⟩ rfl (Nat.le_of_ble_eq_true rfl) hl.1 (tcc_0 c_56 ⟨Nat.zero_le _, Nat.zero_le _⟩) dX5_feel_56) hS (fun H locs hP hS => ?_)
            refine lv_aload_n hx hb dX5_feel_59 rfl (lv_at hl 2 rfl) ?_
            refine gf_X5_25 C hP hk dX5_feel_60 ?_
            refine lv_aload_n hx hb dX5_feel_63 rfl (lv_at hl 2 rfl) ?_
            refine gf_X5_10 C hP hk dX5_feel_64 ?_
            refine thn_V (run_V (As := [.ref (z + (k + 1))]) (rest := []) C (k_X3_keep l D cy z o d σ τ (kd5_40 hk) (k + 1) (kd5_1 hk)) hP hS cw_X3_keep (mA2 (i := 124) rfl rfl) (kd5_40 hk) ⟨rfl, rfl⟩ ⟨Nat.le_of_ble_eq_true rfl, Nat.le_of_ble_eq_true rfl⟩ rfl (Nat.le_of_ble_eq_true rfl) hl.1 ⟨Nat.zero_le _, Nat.zero_le _⟩ dX5_feel_67) hS (fun H locs hP hS => ?_)
            refine lv_aload hx hb dX5_feel_70 (lv_at hl 1 rfl) ?_
            refine lv_iload_n hx hb dX5_feel_72 rfl (lv_at hl 4 rfl) ?_
            refine lv_iload hx hb dX5_feel_73 (lv_at hl 0 rfl) ?_
            refine lv_iload_n hx hb dX5_feel_75 rfl (lv_at hl 5 rfl) ?_
            refine thn_V (run_V (As := [.int y, .int (f_X4_stepUnder σ (f_X5_snailNumbered σ k x) (σ (k + 1) 4) y), .int w]) (rest := []) C (k_X4_sense l D cy z o d (s_X3_keep σ (k + 40) (k + 1)) τ (kr_X5_snailNumbered σ hk x) y (f_X4_stepUnder σ (f_X5_snailNumbered σ k x) (σ (k + 1) 4) y) w) hP hS cw_X4_sense (mA2 (i := 144) rfl rfl) (kr_X5_snailNumbered σ hk x) ⟨rfl, rfl⟩ ⟨Nat.le_of_ble_eq_true rfl, Nat.le_of_ble_eq_true rfl⟩ rfl (Nat.le_of_ble_eq_true rfl) hl.1 ⟨Nat.zero_le _, Nat.zero_le _⟩ dX5_feel_76) hS (fun H locs hP hS => ?_)
            refine lv_iload hx hb dX5_feel_79 (lv_at hl 0 rfl) ?_
            exact retT_I C hP hS (nar_i _) rfl (by unfold x_X5_feel; rw [if_pos c_2, if_pos c_8, if_neg c_13, if_pos c_20, if_pos c_56]) (by unfold f_X5_feel; rw [if_pos c_2, if_pos c_8, if_neg c_13, if_pos c_20, if_pos c_56]) (by unfold s_X5_feel; rw [if_pos c_2, if_pos c_8, if_neg c_13, if_pos c_20, if_pos c_56]) rfl dX5_feel_81
          · exact outT (runT_S (As := [.ref (z + (f_X5_snailNumbered σ k x)), .int w, .int (ab (f_X4_stepUnder σ (f_X5_snailNumbered σ k x) (σ (k + 1) 4) y))]) (rest := []) C (k_X5_demandRoom l hfl D cy z o d σ τ (f_X5_snailNumbered σ k x) (kr_X5_snailNumbered σ hk x) w (ab (f_X4_stepUnder σ (f_X5_snailNumbered σ k x) (σ (k + 1) 4) y))) hP hS cw_X5_demandRoom (mA2 (i := 100) rfl rfl) ⟨Nat.le_of_ble_eq_true rfl, Nat.le_of_ble_eq_true rfl⟩ rfl (Nat.le_of_ble_eq_true rfl) hl.1 (tcc_e (by unfold x_X5_feel; rw [if_pos c_2, if_pos c_8, if_neg c_13, if_pos c_20, if_neg c_56])) dX5_feel_56) z_V c_56 (by unfold x_X5_feel; rw [if_pos c_2, if_pos c_8, if_neg c_13, if_pos c_20, if_neg c_56]) hno hlocks hS (by unfold s_X5_feel; rw [if_pos c_2, if_pos c_8, if_neg c_13, if_pos c_20, if_neg c_56]) rfl
        · exact thr_X5 C hno hfl hP hS (ik := 44) (is := 46) (ic := 48) (T := 2) (text := "ticks out of range") (by unfold x_X5_feel; rw [if_pos c_2, if_pos c_8, if_neg c_13, if_neg c_20]) (by decide) (by decide) vxi_2.1 vxi_2.2.1 vxi_2.2.2 (vxw vxa_x2) vxb_x2 vxc_x2 hl.1 dX5_feel_23 dX5_feel_26 dX5_feel_27 dX5_feel_29 dX5_feel_32 (by decide) (by decide) (by unfold s_X5_feel; rw [if_pos c_2, if_pos c_8, if_neg c_13, if_neg c_20]) rfl
    · exact outT (runT_S (As := [.int y]) (rest := []) C (k_X5_demandState l hfl D cy z o d σ τ y) hP hS cw_X5_demandState (mA2 (i := 34) rfl rfl) ⟨Nat.le_of_ble_eq_true rfl, Nat.le_of_ble_eq_true rfl⟩ rfl (Nat.le_of_ble_eq_true rfl) hl.1 (tcc_e (by unfold x_X5_feel; rw [if_pos c_2, if_neg c_8])) dX5_feel_8) z_V c_8 (by unfold x_X5_feel; rw [if_pos c_2, if_neg c_8]) hno hlocks hS (by unfold s_X5_feel; rw [if_pos c_2, if_neg c_8]) rfl
  · exact outT (runT_V (As := [.int x]) (rest := []) C (k_X5_snailNumbered l hfl D cy z o d σ τ hk x) hP hS cw_X5_snailNumbered (mA1 (i := 198) rfl rfl) hk ⟨Nat.le_of_ble_eq_true rfl, Nat.le_of_ble_eq_true rfl⟩ rfl (Nat.le_of_ble_eq_true rfl) hl.1 (tcc_e (by unfold x_X5_feel; rw [if_neg c_2])) dX5_feel_2) z_R c_2 (by unfold x_X5_feel; rw [if_neg c_2]) hno hlocks hS (by unfold s_X5_feel; rw [if_neg c_2]) rfl

theorem cw_X5_crawl : cwVt yX5_crawl cX5_crawl 7 (some .int) 5 2 := ⟨(mA2 (i := 190) rfl rfl), (mA2 (i := 191) rfl rfl), (mA1 (i := 1) rfl rfl), (mA2 (i := 192) rfl rfl), by decide +kernel, ⟨_, rfl, rfl⟩, by decide⟩
def gf_X5_crawl (j : Nat) (v : Int32) (b : Nat) : Nat → Nat → Sg → Int32
  | 0, _, _ => 0
  | n + 1, i, σ =>
    if b ≤ i then
      σ j 2
    else
      gf_X5_crawl j v b n (i + 1) (s_X4_sense σ j (f_X4_neighbour σ j v) v 1)
def gs_X5_crawl (j : Nat) (v : Int32) (b : Nat) : Nat → Nat → Sg → Sg
  | 0, _, σ => σ
  | n + 1, i, σ =>
    if b ≤ i then
      σ
    else
      gs_X5_crawl j v b n (i + 1) (s_X4_sense σ j (f_X4_neighbour σ j v) v 1)
set_option maxHeartbeats 4000000 in
set_option maxRecDepth 100000 in
theorem lp_X5_crawl {p : Program} {l : Launch} {e : Env} {s : State} {m : MethodId} {args : Array Value} {below : List Frame} {meth : Method} {c : Code} {D : va_G} {cy : Nat → ClassId} {z : Nat} (C : Bd p s m args meth c cX5_crawl 7 (some .int) RX5 D cy z) (o : Int64) (d : UInt64) {k : Nat} (hk : kd k = 5) {j : Nat} (hk_j : kd j = 4) (v : Int32) (b : Nat) {t9 : Nat} (ht9 : t9 = 0) {r9 : Int32} {σ9 : Sg} :
    ∀ (n : Nat) (i : Nat) (σ τ : Sg) (H : Heap) (locs : List Loc), (b ≤ 100 ∧ i ≤ b ∧ b + 1 ≤ i + n) → (gf_X5_crawl j v b n i σ = r9) → (gs_X5_crawl j v b n i σ = σ9) → WP D cy z σ τ o d H → va_S (fz z) s.heap H locs → ∀ ls : Array Slot, lv_has ls 7 [(0, .ref (z + k)), (3, .ref (z + j)), (4, .int (nI b)), (5, .int v), (6, .int (nI i))] → W p l e (rmT 7 104 t9) s m args below meth c H locs 0 0 (vx_MQ below (PoTI D cy z o d t9 r9 σ9 τ) (XP D cy z o d t9 σ9 τ) args s (tcc t9) (tcs t9) (fz z)) (F0 m 67 ls []) := by
  obtain ⟨hx, hb, hr, hml, hown, hW, hlocks, hAm⟩ := id C
  intro n
  induction n with
  | zero =>
    intro _ σ τ H locs hn9 _ _ hP hS ls hl
    exact absurd hn9 (by omega)
  | succ n ih =>
    intro i σ τ H locs hn9 hr9 hs9 hP hS ls hl
    refine lv_iload hx hb dX5_crawl_67 (lv_at hl 4 rfl) ?_
    refine lv_iload hx hb dX5_crawl_69 (lv_at hl 2 rfl) ?_
    refine lv_icmp_ge (tgt := 93) hx hb dX5_crawl_71 (by decide) (fun c_71 => ?_) (fun c_71 => ?_)
    · have d_71 : b ≤ i := (cI_le rfl rfl (by omega) (by omega)).mp c_71
      refine lv_aload_n hx hb dX5_crawl_93 rfl (lv_at hl 1 rfl) ?_
      refine gf_X5_84 C hP hk_j dX5_crawl_94 ?_
      exact retT_I C hP hS (nar_i _) rfl ht9 (by rw [← hr9, gf_X5_crawl]; rw [if_pos d_71]) (by rw [← hs9, gs_X5_crawl]; rw [if_pos d_71]) rfl dX5_crawl_97
    · have d_71 : ¬ (b ≤ i) := fun h9 => c_71 ((cI_le rfl rfl (by omega) (by omega)).mpr h9)
      refine lv_aload_n hx hb dX5_crawl_74 rfl (lv_at hl 1 rfl) ?_
      refine lv_aload_n hx hb dX5_crawl_75 rfl (lv_at hl 1 rfl) ?_
      refine lv_iload hx hb dX5_crawl_76 (lv_at hl 3 rfl) ?_
      refine thn_I (run_V (As := [.int v]) (rest := [.ref (z + j)]) C (k_X4_neighbour l D cy z o d σ τ hk_j v) hP hS cw_X4_neighbour (mA2 (i := 194) rfl rfl) hk_j ⟨rfl, rfl⟩ ⟨Nat.le_of_ble_eq_true rfl, Nat.le_of_ble_eq_true rfl⟩ rfl (Nat.le_of_ble_eq_true rfl) hl.1 ⟨Nat.zero_le _, Nat.zero_le _⟩ dX5_crawl_78) hS (fun H locs hP hS => ?_)
      refine lv_iload hx hb dX5_crawl_81 (lv_at hl 3 rfl) ?_
      refine lv_iconst (v := 1) hx hb dX5_crawl_83 (by decide) ?_
      refine thn_V (run_V (As := [.int (f_X4_neighbour σ j v), .int v, .int 1]) (rest := []) C (k_X4_sense l D cy z o d σ τ hk_j (f_X4_neighbour σ j v) v 1) hP hS cw_X4_sense (mA2 (i := 144) rfl rfl) hk_j ⟨rfl, rfl⟩ ⟨Nat.le_of_ble_eq_true rfl, Nat.le_of_ble_eq_true rfl⟩ rfl (Nat.le_of_ble_eq_true rfl) hl.1 ⟨Nat.zero_le _, Nat.zero_le _⟩ dX5_crawl_84) hS (fun H locs hP hS => ?_)
      refine lv_iinc (v := nI (i + 1)) (lv' := [(6, .int (nI (i + 1))), (0, .ref (z + k)), (3, .ref (z + j)), (4, .int (nI b)), (5, .int v)]) hx hb dX5_crawl_87 hl (k := 4) rfl (nI_1 i) (by decide) rfl (fun ls hl => ?_)
      refine lv_goto (tgt := 67) hx hb dX5_crawl_90 (by decide) ?_
      exact ih (i + 1) (s_X4_sense σ j (f_X4_neighbour σ j v) v 1) τ _ _ (⟨by omega, by omega, by omega⟩) (by rw [← hr9, gf_X5_crawl]; rw [if_neg d_71]) (by rw [← hs9, gs_X5_crawl]; rw [if_neg d_71]) hP hS ls (lv_sub hl [1, 2, 3, 4, 0] rfl)
def f_X5_crawl (σ : Sg) (k : Nat) (x : Int32) (y : Int32) : Int32 :=
  if x_X5_snailNumbered σ k x = 0 then
    if y < (-100) then
      0
    else
      if y ≤ 100 then
        if x_X5_demandRoom σ (f_X5_snailNumbered σ k x) (nI ((ab y).toNatClampNeg)) (nI ((ab y).toNatClampNeg)) = 0 then
          if 0 ≤ y then
            gf_X5_crawl (f_X5_snailNumbered σ k x) 1 ((ab y).toNatClampNeg) 101 0 (s_X3_keep σ (k + 40) (k + 1))
          else
            gf_X5_crawl (f_X5_snailNumbered σ k x) (-1) ((ab y).toNatClampNeg) 101 0 (s_X3_keep σ (k + 40) (k + 1))
        else
          0
      else
        0
  else
    0
def s_X5_crawl (σ : Sg) (k : Nat) (x : Int32) (y : Int32) : Sg :=
  if x_X5_snailNumbered σ k x = 0 then
    if y < (-100) then
      σ
    else
      if y ≤ 100 then
        if x_X5_demandRoom σ (f_X5_snailNumbered σ k x) (nI ((ab y).toNatClampNeg)) (nI ((ab y).toNatClampNeg)) = 0 then
          if 0 ≤ y then
            gs_X5_crawl (f_X5_snailNumbered σ k x) 1 ((ab y).toNatClampNeg) 101 0 (s_X3_keep σ (k + 40) (k + 1))
          else
            gs_X5_crawl (f_X5_snailNumbered σ k x) (-1) ((ab y).toNatClampNeg) 101 0 (s_X3_keep σ (k + 40) (k + 1))
        else
          σ
      else
        σ
  else
    σ
def x_X5_crawl (σ : Sg) (k : Nat) (x : Int32) (y : Int32) : Nat :=
  if x_X5_snailNumbered σ k x = 0 then
    if y < (-100) then
      2
    else
      if y ≤ 100 then
        if x_X5_demandRoom σ (f_X5_snailNumbered σ k x) (nI ((ab y).toNatClampNeg)) (nI ((ab y).toNatClampNeg)) = 0 then
          if 0 ≤ y then
            0
          else
            0
        else
          x_X5_demandRoom σ (f_X5_snailNumbered σ k x) (nI ((ab y).toNatClampNeg)) (nI ((ab y).toNatClampNeg))
      else
        2
  else
    x_X5_snailNumbered σ k x
set_option maxHeartbeats 4000000 in
set_option maxRecDepth 100000 in
theorem k_X5_crawl (l : Launch) (hfl : l.stackTraces = false) (D : va_G) (cy : Nat → ClassId) (z : Nat) (o : Int64) (d : UInt64) (σ τ : Sg) {k : Nat} (hk : kd k = 5) (x : Int32) (y : Int32) : KT l yX5_crawl cX5_crawl 7 (some .int) 7 104 D cy z [.ref (z + k), .int x, .int y] o d σ τ (x_X5_crawl σ k x y) (PoTI D cy z o d (x_X5_crawl σ k x y) (f_X5_crawl σ k x y) (s_X5_crawl σ k x y) τ) (s_X5_crawl σ k x y) τ := by
  refine metT_of RX5 (by decide) rfl (Nat.le_of_ble_eq_true rfl) ?_
  intro p e s m args below meth c C hno hP hS ls hl
  obtain ⟨hx, hb, hr, hml, hown, hW, hlocks, hAm⟩ := id C
  have hl : lv_has ls 7 [(0, .ref (z + k)), (1, .int x), (2, .int y)] := hl
  refine lv_aload_n hx hb dX5_crawl_0 rfl (lv_at hl 0 rfl) ?_
  refine lv_iload_n hx hb dX5_crawl_1 rfl (lv_at hl 1 rfl) ?_
  by_cases c_2 : x_X5_snailNumbered σ k x = 0
  · refine okT_R c_2 (runT_V (As := [.int x]) (rest := []) C (k_X5_snailNumbered l hfl D cy z o d σ τ hk x) hP hS cw_X5_snailNumbered (mA1 (i := 198) rfl rfl) hk ⟨Nat.le_of_ble_eq_true rfl, Nat.le_of_ble_eq_true rfl⟩ rfl (Nat.le_of_ble_eq_true rfl) hl.1 (tcc_0 c_2 ⟨Nat.zero_le _, Nat.zero_le _⟩) dX5_crawl_2) hS (fun H locs hP hS => ?_)
    refine lv_astore_n (lv' := [(3, .ref (z + (f_X5_snailNumbered σ k x))), (0, .ref (z + k)), (1, .int x), (2, .int y)]) hx hb dX5_crawl_5 rfl hl (by decide) rfl (fun ls hl => ?_)
    refine lv_iload_n hx hb dX5_crawl_6 rfl (lv_at hl 3 rfl) ?_
    refine lv_bipush (v := (-100)) hx hb dX5_crawl_7 (by decide) ?_
    refine lv_icmp_lt (tgt := 18) hx hb dX5_crawl_9 (by decide) (fun c_9 => ?_) (fun c_9 => ?_)
    · exact thr_X5 C hno hfl hP hS (ik := 44) (is := 79) (ic := 48) (T := 2) (text := "steps out of range") (by unfold x_X5_crawl; rw [if_pos c_2, if_pos c_9]) (by decide) (by decide) vxi_2.1 vxi_2.2.1 vxi_2.2.2 (vxw vxa_x2) vxb_x2 vxc_x2 hl.1 dX5_crawl_18 dX5_crawl_21 dX5_crawl_22 dX5_crawl_24 dX5_crawl_27 (by decide) (by decide) (by unfold s_X5_crawl; rw [if_pos c_2, if_pos c_9]) rfl
    · refine lv_iload_n hx hb dX5_crawl_12 rfl (lv_at hl 3 rfl) ?_
      refine lv_bipush (v := 100) hx hb dX5_crawl_13 (by decide) ?_
      refine lv_icmp_le (tgt := 28) hx hb dX5_crawl_15 (by decide) (fun c_15 => ?_) (fun c_15 => ?_)
      · refine lv_iload_n hx hb dX5_crawl_28 rfl (lv_at hl 3 rfl) ?_
        refine g_abs C (mA2 (i := 97) rfl rfl) (Nat.le_of_ble_eq_true rfl) (Nat.le_of_ble_eq_true rfl) ⟨Nat.zero_le _, Nat.zero_le _⟩ hl.1 dX5_crawl_29 ?_
        have hz9 := (sz100 c_9 c_15).2
        rw [(sz100 c_9 c_15).1]
        refine lv_istore (lv' := [(4, .int (nI ((ab y).toNatClampNeg))), (3, .ref (z + (f_X5_snailNumbered σ k x))), (0, .ref (z + k)), (1, .int x), (2, .int y)]) hx hb dX5_crawl_32 hl (by decide) rfl (fun ls hl => ?_)
        refine lv_aload_n hx hb dX5_crawl_34 rfl (lv_at hl 1 rfl) ?_
        refine lv_iload hx hb dX5_crawl_35 (lv_at hl 0 rfl) ?_
        refine lv_iload hx hb dX5_crawl_37 (lv_at hl 0 rfl) ?_
        by_cases c_39 : x_X5_demandRoom σ (f_X5_snailNumbered σ k x) (nI ((ab y).toNatClampNeg)) (nI ((ab y).toNatClampNeg)) = 0
        · refine okT_V c_39 (runT_S (As := [.ref (z + (f_X5_snailNumbered σ k x)), .int (nI ((ab y).toNatClampNeg)), .int (nI ((ab y).toNatClampNeg))]) (rest := []) C (k_X5_demandRoom l hfl D cy z o d σ τ (f_X5_snailNumbered σ k x) (kr_X5_snailNumbered σ hk x) (nI ((ab y).toNatClampNeg)) (nI ((ab y).toNatClampNeg))) hP hS cw_X5_demandRoom (mA2 (i := 100) rfl rfl) ⟨Nat.le_of_ble_eq_true rfl, Nat.le_of_ble_eq_true rfl⟩ rfl (Nat.le_of_ble_eq_true rfl) hl.1 (tcc_0 c_39 ⟨Nat.zero_le _, Nat.zero_le _⟩) dX5_crawl_39) hS (fun H locs hP hS => ?_)
          refine lv_aload_n hx hb dX5_crawl_42 rfl (lv_at hl 2 rfl) ?_
          refine gf_X5_25 C hP hk dX5_crawl_43 ?_
          refine lv_aload_n hx hb dX5_crawl_46 rfl (lv_at hl 2 rfl) ?_
          refine gf_X5_10 C hP hk dX5_crawl_47 ?_
          refine thn_V (run_V (As := [.ref (z + (k + 1))]) (rest := []) C (k_X3_keep l D cy z o d σ τ (kd5_40 hk) (k + 1) (kd5_1 hk)) hP hS cw_X3_keep (mA2 (i := 124) rfl rfl) (kd5_40 hk) ⟨rfl, rfl⟩ ⟨Nat.le_of_ble_eq_true rfl, Nat.le_of_ble_eq_true rfl⟩ rfl (Nat.le_of_ble_eq_true rfl) hl.1 ⟨Nat.zero_le _, Nat.zero_le _⟩ dX5_crawl_50) hS (fun H locs hP hS => ?_)
          refine lv_iload_n hx hb dX5_crawl_53 rfl (lv_at hl 4 rfl) ?_
          refine lv_if_ge (tgt := 61) hx hb dX5_crawl_54 (by decide) (fun c_54 => ?_) (fun c_54 => ?_)
          · refine lv_iconst (v := 1) hx hb dX5_crawl_61 (by decide) ?_
            refine lv_istore (lv' := [(5, .int 1), (4, .int (nI ((ab y).toNatClampNeg))), (3, .ref (z + (f_X5_snailNumbered σ k x))), (0, .ref (z + k)), (1, .int x), (2, .int y)]) hx hb dX5_crawl_62 hl (by decide) rfl (fun ls hl => ?_)
            refine lv_iconst (v := 0) hx hb dX5_crawl_64 (by decide) ?_
            refine lv_istore (lv' := [(6, .int 0), (5, .int 1), (4, .int (nI ((ab y).toNatClampNeg))), (3, .ref (z + (f_X5_snailNumbered σ k x))), (0, .ref (z + k)), (1, .int x), (2, .int y)]) hx hb dX5_crawl_65 hl (by decide) rfl (fun ls hl => ?_)
            exact lp_X5_crawl C o d hk (kr_X5_snailNumbered σ hk x) 1 ((ab y).toNatClampNeg) (by unfold x_X5_crawl; rw [if_pos c_2, if_neg c_9, if_pos c_15, if_pos c_39, if_pos c_54]) (101) 0 (s_X3_keep σ (k + 40) (k + 1)) τ _ _ (⟨by omega, by omega, by omega⟩) (by unfold f_X5_crawl; rw [if_pos c_2, if_neg c_9, if_pos c_15, if_pos c_39, if_pos c_54]) (by unfold s_X5_crawl; rw [if_pos c_2, if_neg c_9, if_pos c_15, if_pos c_39, if_pos c_54]) hP hS ls (lv_sub hl [4, 3, 2, 1, 0] rfl)
          · refine lv_iconst (v := (-1)) hx hb dX5_crawl_57 (by decide) ?_
            refine lv_goto (tgt := 62) hx hb dX5_crawl_58 (by decide) ?_
            refine lv_istore (lv' := [(5, .int (-1)), (4, .int (nI ((ab y).toNatClampNeg))), (3, .ref (z + (f_X5_snailNumbered σ k x))), (0, .ref (z + k)), (1, .int x), (2, .int y)]) hx hb dX5_crawl_62 hl (by decide) rfl (fun ls hl => ?_)
            refine lv_iconst (v := 0) hx hb dX5_crawl_64 (by decide) ?_
            refine lv_istore (lv' := [(6, .int 0), (5, .int (-1)), (4, .int (nI ((ab y).toNatClampNeg))), (3, .ref (z + (f_X5_snailNumbered σ k x))), (0, .ref (z + k)), (1, .int x), (2, .int y)]) hx hb dX5_crawl_65 hl (by decide) rfl (fun ls hl => ?_)
            exact lp_X5_crawl C o d hk (kr_X5_snailNumbered σ hk x) (-1) ((ab y).toNatClampNeg) (by unfold x_X5_crawl; rw [if_pos c_2, if_neg c_9, if_pos c_15, if_pos c_39, if_neg c_54]) (101) 0 (s_X3_keep σ (k + 40) (k + 1)) τ _ _ (⟨by omega, by omega, by omega⟩) (by unfold f_X5_crawl; rw [if_pos c_2, if_neg c_9, if_pos c_15, if_pos c_39, if_neg c_54]) (by unfold s_X5_crawl; rw [if_pos c_2, if_neg c_9, if_pos c_15, if_pos c_39, if_neg c_54]) hP hS ls (lv_sub hl [4, 3, 2, 1, 0] rfl)
        · exact outT (runT_S (As := [.ref (z + (f_X5_snailNumbered σ k x)), .int (nI ((ab y).toNatClampNeg)), .int (nI ((ab y).toNatClampNeg))]) (rest := []) C (k_X5_demandRoom l hfl D cy z o d σ τ (f_X5_snailNumbered σ k x) (kr_X5_snailNumbered σ hk x) (nI ((ab y).toNatClampNeg)) (nI ((ab y).toNatClampNeg))) hP hS cw_X5_demandRoom (mA2 (i := 100) rfl rfl) ⟨Nat.le_of_ble_eq_true rfl, Nat.le_of_ble_eq_true rfl⟩ rfl (Nat.le_of_ble_eq_true rfl) hl.1 (tcc_e (by unfold x_X5_crawl; rw [if_pos c_2, if_neg c_9, if_pos c_15, if_neg c_39])) dX5_crawl_39) z_V c_39 (by unfold x_X5_crawl; rw [if_pos c_2, if_neg c_9, if_pos c_15, if_neg c_39]) hno hlocks hS (by unfold s_X5_crawl; rw [if_pos c_2, if_neg c_9, if_pos c_15, if_neg c_39]) rfl
      · exact thr_X5 C hno hfl hP hS (ik := 44) (is := 79) (ic := 48) (T := 2) (text := "steps out of range") (by unfold x_X5_crawl; rw [if_pos c_2, if_neg c_9, if_neg c_15]) (by decide) (by decide) vxi_2.1 vxi_2.2.1 vxi_2.2.2 (vxw vxa_x2) vxb_x2 vxc_x2 hl.1 dX5_crawl_18 dX5_crawl_21 dX5_crawl_22 dX5_crawl_24 dX5_crawl_27 (by decide) (by decide) (by unfold s_X5_crawl; rw [if_pos c_2, if_neg c_9, if_neg c_15]) rfl
  · exact outT (runT_V (As := [.int x]) (rest := []) C (k_X5_snailNumbered l hfl D cy z o d σ τ hk x) hP hS cw_X5_snailNumbered (mA1 (i := 198) rfl rfl) hk ⟨Nat.le_of_ble_eq_true rfl, Nat.le_of_ble_eq_true rfl⟩ rfl (Nat.le_of_ble_eq_true rfl) hl.1 (tcc_e (by unfold x_X5_crawl; rw [if_neg c_2])) dX5_crawl_2) z_R c_2 (by unfold x_X5_crawl; rw [if_neg c_2]) hno hlocks hS (by unfold s_X5_crawl; rw [if_neg c_2]) rfl

theorem cw_X5_meetMark : cwVt yX5_meetMark cX5_meetMark 3 (some .int) 5 1 := ⟨(mA2 (i := 218) rfl rfl), (mA2 (i := 219) rfl rfl), (mA1 (i := 1) rfl rfl), (mA2 (i := 220) rfl rfl), by decide +kernel, ⟨_, rfl, rfl⟩, by decide⟩
def f_X5_meetMark (σ : Sg) (k : Nat) (x : Int32) : Int32 :=
  if x_X5_snailNumbered σ k x = 0 then
    f_X4_passMark (s_X3_keep σ (k + 40) (k + 1)) (f_X5_snailNumbered σ k x) ((s_X3_keep σ (k + 40) (k + 1)) (k + 1) 5)
  else
    0
def s_X5_meetMark (σ : Sg) (k : Nat) (x : Int32) : Sg :=
  if x_X5_snailNumbered σ k x = 0 then
    s_X4_passMark (s_X3_keep σ (k + 40) (k + 1)) (f_X5_snailNumbered σ k x) ((s_X3_keep σ (k + 40) (k + 1)) (k + 1) 5)
  else
    σ
def x_X5_meetMark (σ : Sg) (k : Nat) (x : Int32) : Nat :=
  if x_X5_snailNumbered σ k x = 0 then
    0
  else
    x_X5_snailNumbered σ k x
set_option maxHeartbeats 4000000 in
set_option maxRecDepth 100000 in
theorem k_X5_meetMark (l : Launch) (hfl : l.stackTraces = false) (D : va_G) (cy : Nat → ClassId) (z : Nat) (o : Int64) (d : UInt64) (σ τ : Sg) {k : Nat} (hk : kd k = 5) (x : Int32) : KT l yX5_meetMark cX5_meetMark 3 (some .int) 7 103 D cy z [.ref (z + k), .int x] o d σ τ (x_X5_meetMark σ k x) (PoTI D cy z o d (x_X5_meetMark σ k x) (f_X5_meetMark σ k x) (s_X5_meetMark σ k x) τ) (s_X5_meetMark σ k x) τ := by
  refine metT_of RX5 (by decide) rfl (Nat.le_of_ble_eq_true rfl) ?_
  intro p e s m args below meth c C hno hP hS ls hl
  obtain ⟨hx, hb, hr, hml, hown, hW, hlocks, hAm⟩ := id C
  have hl : lv_has ls 3 [(0, .ref (z + k)), (1, .int x)] := hl
  refine lv_aload_n hx hb dX5_meetMark_0 rfl (lv_at hl 0 rfl) ?_
  refine lv_iload_n hx hb dX5_meetMark_1 rfl (lv_at hl 1 rfl) ?_
  by_cases c_2 : x_X5_snailNumbered σ k x = 0
  · refine okT_R c_2 (runT_V (As := [.int x]) (rest := []) C (k_X5_snailNumbered l hfl D cy z o d σ τ hk x) hP hS cw_X5_snailNumbered (mA1 (i := 198) rfl rfl) hk ⟨Nat.le_of_ble_eq_true rfl, Nat.le_of_ble_eq_true rfl⟩ rfl (Nat.le_of_ble_eq_true rfl) hl.1 (tcc_0 c_2 ⟨Nat.zero_le _, Nat.zero_le _⟩) dX5_meetMark_2) hS (fun H locs hP hS => ?_)
    refine lv_astore_n (lv' := [(2, .ref (z + (f_X5_snailNumbered σ k x))), (0, .ref (z + k)), (1, .int x)]) hx hb dX5_meetMark_5 rfl hl (by decide) rfl (fun ls hl => ?_)
    refine lv_aload_n hx hb dX5_meetMark_6 rfl (lv_at hl 1 rfl) ?_
    refine gf_X5_25 C hP hk dX5_meetMark_7 ?_
    refine lv_aload_n hx hb dX5_meetMark_10 rfl (lv_at hl 1 rfl) ?_
    refine gf_X5_10 C hP hk dX5_meetMark_11 ?_
    refine thn_V (run_V (As := [.ref (z + (k + 1))]) (rest := []) C (k_X3_keep l D cy z o d σ τ (kd5_40 hk) (k + 1) (kd5_1 hk)) hP hS cw_X3_keep (mA2 (i := 124) rfl rfl) (kd5_40 hk) ⟨rfl, rfl⟩ ⟨Nat.le_of_ble_eq_true rfl, Nat.le_of_ble_eq_true rfl⟩ rfl (Nat.le_of_ble_eq_true rfl) hl.1 ⟨Nat.zero_le _, Nat.zero_le _⟩ dX5_meetMark_14) hS (fun H locs hP hS => ?_)
    refine lv_aload_n hx hb dX5_meetMark_17 rfl (lv_at hl 0 rfl) ?_
    refine lv_aload_n hx hb dX5_meetMark_18 rfl (lv_at hl 1 rfl) ?_
    refine gf_X5_10 C hP hk dX5_meetMark_19 ?_
    refine gf_X5_87 C hP (kd5_1 hk) dX5_meetMark_22 ?_
    refine thn_I (run_V (As := [.int ((s_X3_keep σ (k + 40) (k + 1)) (k + 1) 5)]) (rest := []) C (k_X4_passMark l D cy z o d (s_X3_keep σ (k + 40) (k + 1)) τ (kr_X5_snailNumbered σ hk x) ((s_X3_keep σ (k + 40) (k + 1)) (k + 1) 5)) hP hS cw_X4_passMark (mA2 (i := 221) rfl rfl) (kr_X5_snailNumbered σ hk x) ⟨rfl, rfl⟩ ⟨Nat.le_of_ble_eq_true rfl, Nat.le_of_ble_eq_true rfl⟩ rfl (Nat.le_of_ble_eq_true rfl) hl.1 ⟨Nat.zero_le _, Nat.zero_le _⟩ dX5_meetMark_25) hS (fun H locs hP hS => ?_)
    exact retT_I C hP hS (nar_i _) rfl (by unfold x_X5_meetMark; rw [if_pos c_2]) (by unfold f_X5_meetMark; rw [if_pos c_2]) (by unfold s_X5_meetMark; rw [if_pos c_2]) rfl dX5_meetMark_28
  · exact outT (runT_V (As := [.int x]) (rest := []) C (k_X5_snailNumbered l hfl D cy z o d σ τ hk x) hP hS cw_X5_snailNumbered (mA1 (i := 198) rfl rfl) hk ⟨Nat.le_of_ble_eq_true rfl, Nat.le_of_ble_eq_true rfl⟩ rfl (Nat.le_of_ble_eq_true rfl) hl.1 (tcc_e (by unfold x_X5_meetMark; rw [if_neg c_2])) dX5_meetMark_2) z_R c_2 (by unfold x_X5_meetMark; rw [if_neg c_2]) hno hlocks hS (by unfold s_X5_meetMark; rw [if_neg c_2]) rfl

theorem cw_X5_goBack : cwVt yX5_goBack cX5_goBack 4 (some .int) 5 2 := ⟨(mA2 (i := 234) rfl rfl), (mA2 (i := 235) rfl rfl), (mA1 (i := 1) rfl rfl), (mA2 (i := 236) rfl rfl), by decide +kernel, ⟨_, rfl, rfl⟩, by decide⟩
def f_X5_goBack (σ : Sg) (k : Nat) (x : Int32) (y : Int32) : Int32 :=
  if x_X5_snailNumbered σ k x = 0 then
    if y < 1 then
      0
    else
      if y ≤ 16 then
        if (f_X4_canRetrace σ (f_X5_snailNumbered σ k x) y) = 0 then
          0
        else
          (s_X4_retrace (s_X3_keep σ (k + 40) (k + 1)) (f_X5_snailNumbered σ k x) y) (f_X5_snailNumbered σ k x) 2
      else
        0
  else
    0
def s_X5_goBack (σ : Sg) (k : Nat) (x : Int32) (y : Int32) : Sg :=
  if x_X5_snailNumbered σ k x = 0 then
    if y < 1 then
      σ
    else
      if y ≤ 16 then
        if (f_X4_canRetrace σ (f_X5_snailNumbered σ k x) y) = 0 then
          σ
        else
          s_X4_retrace (s_X3_keep σ (k + 40) (k + 1)) (f_X5_snailNumbered σ k x) y
      else
        σ
  else
    σ
def x_X5_goBack (σ : Sg) (k : Nat) (x : Int32) (y : Int32) : Nat :=
  if x_X5_snailNumbered σ k x = 0 then
    if y < 1 then
      2
    else
      if y ≤ 16 then
        if (f_X4_canRetrace σ (f_X5_snailNumbered σ k x) y) = 0 then
          3
        else
          0
      else
        2
  else
    x_X5_snailNumbered σ k x
set_option maxHeartbeats 4000000 in
set_option maxRecDepth 100000 in
theorem k_X5_goBack (l : Launch) (hfl : l.stackTraces = false) (D : va_G) (cy : Nat → ClassId) (z : Nat) (o : Int64) (d : UInt64) (σ τ : Sg) {k : Nat} (hk : kd k = 5) (x : Int32) (y : Int32) (hG : LGA σ) : KT l yX5_goBack cX5_goBack 4 (some .int) 7 103 D cy z [.ref (z + k), .int x, .int y] o d σ τ (x_X5_goBack σ k x y) (PoTI D cy z o d (x_X5_goBack σ k x y) (f_X5_goBack σ k x y) (s_X5_goBack σ k x y) τ) (s_X5_goBack σ k x y) τ := by
  refine metT_of RX5 (by decide) rfl (Nat.le_of_ble_eq_true rfl) ?_
  intro p e s m args below meth c C hno hP hS ls hl
  obtain ⟨hx, hb, hr, hml, hown, hW, hlocks, hAm⟩ := id C
  have hl : lv_has ls 4 [(0, .ref (z + k)), (1, .int x), (2, .int y)] := hl
  refine lv_aload_n hx hb dX5_goBack_0 rfl (lv_at hl 0 rfl) ?_
  refine lv_iload_n hx hb dX5_goBack_1 rfl (lv_at hl 1 rfl) ?_
  by_cases c_2 : x_X5_snailNumbered σ k x = 0
  · refine okT_R c_2 (runT_V (As := [.int x]) (rest := []) C (k_X5_snailNumbered l hfl D cy z o d σ τ hk x) hP hS cw_X5_snailNumbered (mA1 (i := 198) rfl rfl) hk ⟨Nat.le_of_ble_eq_true rfl, Nat.le_of_ble_eq_true rfl⟩ rfl (Nat.le_of_ble_eq_true rfl) hl.1 (tcc_0 c_2 ⟨Nat.zero_le _, Nat.zero_le _⟩) dX5_goBack_2) hS (fun H locs hP hS => ?_)
    refine lv_astore_n (lv' := [(3, .ref (z + (f_X5_snailNumbered σ k x))), (0, .ref (z + k)), (1, .int x), (2, .int y)]) hx hb dX5_goBack_5 rfl hl (by decide) rfl (fun ls hl => ?_)
    refine lv_iload_n hx hb dX5_goBack_6 rfl (lv_at hl 3 rfl) ?_
    refine lv_iconst (v := 1) hx hb dX5_goBack_7 (by decide) ?_
    refine lv_icmp_lt (tgt := 17) hx hb dX5_goBack_8 (by decide) (fun c_8 => ?_) (fun c_8 => ?_)
    · exact thr_X5 C hno hfl hP hS (ik := 44) (is := 93) (ic := 48) (T := 2) (text := "feelings out of range") (by unfold x_X5_goBack; rw [if_pos c_2, if_pos c_8]) (by decide) (by decide) vxi_2.1 vxi_2.2.1 vxi_2.2.2 (vxw vxa_x2) vxb_x2 vxc_x2 hl.1 dX5_goBack_17 dX5_goBack_20 dX5_goBack_21 dX5_goBack_23 dX5_goBack_26 (by decide) (by decide) (by unfold s_X5_goBack; rw [if_pos c_2, if_pos c_8]) rfl
    · refine lv_iload_n hx hb dX5_goBack_11 rfl (lv_at hl 3 rfl) ?_
      refine lv_bipush (v := 16) hx hb dX5_goBack_12 (by decide) ?_
      refine lv_icmp_le (tgt := 27) hx hb dX5_goBack_14 (by decide) (fun c_14 => ?_) (fun c_14 => ?_)
      · refine lv_aload_n hx hb dX5_goBack_27 rfl (lv_at hl 0 rfl) ?_
        refine lv_iload_n hx hb dX5_goBack_28 rfl (lv_at hl 3 rfl) ?_
        refine thn_I (run_V (As := [.int y]) (rest := []) C (k_X4_canRetrace l D cy z o d σ τ (kr_X5_snailNumbered σ hk x) y hG (rng16 c_8 c_14)) hP hS cw_X4_canRetrace (mA2 (i := 238) rfl rfl) (kr_X5_snailNumbered σ hk x) ⟨rfl, rfl⟩ ⟨Nat.le_of_ble_eq_true rfl, Nat.le_of_ble_eq_true rfl⟩ rfl (Nat.le_of_ble_eq_true rfl) hl.1 ⟨Nat.zero_le _, Nat.zero_le _⟩ dX5_goBack_29) hS (fun H locs hP hS => ?_)
        refine lv_if_ne (tgt := 45) hx hb dX5_goBack_32 (by decide) (fun c_32 => ?_) (fun c_32 => ?_)
        · refine lv_aload_n hx hb dX5_goBack_45 rfl (lv_at hl 1 rfl) ?_
          refine gf_X5_25 C hP hk dX5_goBack_46 ?_
          refine lv_aload_n hx hb dX5_goBack_49 rfl (lv_at hl 1 rfl) ?_
          refine gf_X5_10 C hP hk dX5_goBack_50 ?_
          refine thn_V (run_V (As := [.ref (z + (k + 1))]) (rest := []) C (k_X3_keep l D cy z o d σ τ (kd5_40 hk) (k + 1) (kd5_1 hk)) hP hS cw_X3_keep (mA2 (i := 124) rfl rfl) (kd5_40 hk) ⟨rfl, rfl⟩ ⟨Nat.le_of_ble_eq_true rfl, Nat.le_of_ble_eq_true rfl⟩ rfl (Nat.le_of_ble_eq_true rfl) hl.1 ⟨Nat.zero_le _, Nat.zero_le _⟩ dX5_goBack_53) hS (fun H locs hP hS => ?_)
          refine lv_aload_n hx hb dX5_goBack_56 rfl (lv_at hl 0 rfl) ?_
          refine lv_iload_n hx hb dX5_goBack_57 rfl (lv_at hl 3 rfl) ?_
          refine thn_V (run_V (As := [.int y]) (rest := []) C (k_X4_retrace l D cy z o d (s_X3_keep σ (k + 40) (k + 1)) τ (kr_X5_snailNumbered σ hk x) y (rng16 c_8 c_14).2) hP hS cw_X4_retrace (mA3 (i := 9) rfl rfl) (kr_X5_snailNumbered σ hk x) ⟨rfl, rfl⟩ ⟨Nat.le_of_ble_eq_true rfl, Nat.le_of_ble_eq_true rfl⟩ rfl (Nat.le_of_ble_eq_true rfl) hl.1 ⟨Nat.zero_le _, Nat.zero_le _⟩ dX5_goBack_58) hS (fun H locs hP hS => ?_)
          refine lv_aload_n hx hb dX5_goBack_61 rfl (lv_at hl 0 rfl) ?_
          refine gf_X5_84 C hP (kr_X5_snailNumbered σ hk x) dX5_goBack_62 ?_
          exact retT_I C hP hS (nar_i _) rfl (by unfold x_X5_goBack; rw [if_pos c_2, if_neg c_8, if_pos c_14, if_neg c_32]) (by unfold f_X5_goBack; rw [if_pos c_2, if_neg c_8, if_pos c_14, if_neg c_32]) (by unfold s_X5_goBack; rw [if_pos c_2, if_neg c_8, if_pos c_14, if_neg c_32]) rfl dX5_goBack_65
        · exact thr_X5 C hno hfl hP hS (ik := 99) (is := 101) (ic := 103) (T := 3) (text := "the way back is not in the log, or too long") (by unfold x_X5_goBack; rw [if_pos c_2, if_neg c_8, if_pos c_14, if_pos c_32]) (by decide) (by decide) vxi_3.1 vxi_3.2.1 vxi_3.2.2 (vxw vxa_x3) vxb_x3 vxc_x3 hl.1 dX5_goBack_35 dX5_goBack_38 dX5_goBack_39 dX5_goBack_41 dX5_goBack_44 (by decide) (by decide) (by unfold s_X5_goBack; rw [if_pos c_2, if_neg c_8, if_pos c_14, if_pos c_32]) rfl
      · exact thr_X5 C hno hfl hP hS (ik := 44) (is := 93) (ic := 48) (T := 2) (text := "feelings out of range") (by unfold x_X5_goBack; rw [if_pos c_2, if_neg c_8, if_neg c_14]) (by decide) (by decide) vxi_2.1 vxi_2.2.1 vxi_2.2.2 (vxw vxa_x2) vxb_x2 vxc_x2 hl.1 dX5_goBack_17 dX5_goBack_20 dX5_goBack_21 dX5_goBack_23 dX5_goBack_26 (by decide) (by decide) (by unfold s_X5_goBack; rw [if_pos c_2, if_neg c_8, if_neg c_14]) rfl
  · exact outT (runT_V (As := [.int x]) (rest := []) C (k_X5_snailNumbered l hfl D cy z o d σ τ hk x) hP hS cw_X5_snailNumbered (mA1 (i := 198) rfl rfl) hk ⟨Nat.le_of_ble_eq_true rfl, Nat.le_of_ble_eq_true rfl⟩ rfl (Nat.le_of_ble_eq_true rfl) hl.1 (tcc_e (by unfold x_X5_goBack; rw [if_neg c_2])) dX5_goBack_2) z_R c_2 (by unfold x_X5_goBack; rw [if_neg c_2]) hno hlocks hS (by unfold s_X5_goBack; rw [if_neg c_2]) rfl

theorem cw_X5_setRule : cwVt yX5_setRule cX5_setRule 3 (some .int) 5 1 := ⟨(mA3 (i := 22) rfl rfl), (mA3 (i := 23) rfl rfl), (mA1 (i := 1) rfl rfl), (mA3 (i := 24) rfl rfl), by decide +kernel, ⟨_, rfl, rfl⟩, by decide⟩
def f_X5_setRule (σ : Sg) (k : Nat) (x : Int32) : Int32 :=
  if x = 0 then
    (s_X3_keep σ (k + 40) (k + 1)) (k + 1) 4
  else
    if x = 1 then
      (s_X3_keep σ (k + 40) (k + 1)) (k + 1) 4
    else
      0
def s_X5_setRule (σ : Sg) (k : Nat) (x : Int32) : Sg :=
  if x = 0 then
    up (s_X3_keep σ (k + 40) (k + 1)) (k + 1) 4 x
  else
    if x = 1 then
      up (s_X3_keep σ (k + 40) (k + 1)) (k + 1) 4 x
    else
      σ
def x_X5_setRule (σ : Sg) (k : Nat) (x : Int32) : Nat :=
  if x = 0 then
    0
  else
    if x = 1 then
      0
    else
      2
set_option maxHeartbeats 4000000 in
set_option maxRecDepth 100000 in
theorem k_X5_setRule (l : Launch) (hfl : l.stackTraces = false) (D : va_G) (cy : Nat → ClassId) (z : Nat) (o : Int64) (d : UInt64) (σ τ : Sg) {k : Nat} (hk : kd k = 5) (x : Int32) : KT l yX5_setRule cX5_setRule 3 (some .int) 6 85 D cy z [.ref (z + k), .int x] o d σ τ (x_X5_setRule σ k x) (PoTI D cy z o d (x_X5_setRule σ k x) (f_X5_setRule σ k x) (s_X5_setRule σ k x) τ) (s_X5_setRule σ k x) τ := by
  refine metT_of RX5 (by decide) rfl (Nat.le_of_ble_eq_true rfl) ?_
  intro p e s m args below meth c C hno hP hS ls hl
  obtain ⟨hx, hb, hr, hml, hown, hW, hlocks, hAm⟩ := id C
  have hl : lv_has ls 3 [(0, .ref (z + k)), (1, .int x)] := hl
  refine lv_iload_n hx hb dX5_setRule_0 rfl (lv_at hl 1 rfl) ?_
  refine lv_if_eq (tgt := 19) hx hb dX5_setRule_1 (by decide) (fun c_1 => ?_) (fun c_1 => ?_)
  · refine lv_aload_n hx hb dX5_setRule_19 rfl (lv_at hl 0 rfl) ?_
    refine gf_X5_25 C hP hk dX5_setRule_20 ?_
    refine lv_aload_n hx hb dX5_setRule_23 rfl (lv_at hl 0 rfl) ?_
    refine gf_X5_10 C hP hk dX5_setRule_24 ?_
    refine thn_V (run_V (As := [.ref (z + (k + 1))]) (rest := []) C (k_X3_keep l D cy z o d σ τ (kd5_40 hk) (k + 1) (kd5_1 hk)) hP hS cw_X3_keep (mA2 (i := 124) rfl rfl) (kd5_40 hk) ⟨rfl, rfl⟩ ⟨Nat.le_of_ble_eq_true rfl, Nat.le_of_ble_eq_true rfl⟩ rfl (Nat.le_of_ble_eq_true rfl) hl.1 ⟨Nat.zero_le _, Nat.zero_le _⟩ dX5_setRule_27) hS (fun H locs hP hS => ?_)
    refine lv_aload_n hx hb dX5_setRule_30 rfl (lv_at hl 0 rfl) ?_
    refine gf_X5_10 C hP hk dX5_setRule_31 ?_
    refine gf_X5_51 C hP (kd5_1 hk) dX5_setRule_34 ?_
    refine lv_istore_n (lv' := [(2, .int ((s_X3_keep σ (k + 40) (k + 1)) (k + 1) 4)), (0, .ref (z + k)), (1, .int x)]) hx hb dX5_setRule_37 rfl hl (by decide) rfl (fun ls hl => ?_)
    refine lv_aload_n hx hb dX5_setRule_38 rfl (lv_at hl 1 rfl) ?_
    refine gf_X5_10 C hP hk dX5_setRule_39 ?_
    refine lv_iload_n hx hb dX5_setRule_42 rfl (lv_at hl 2 rfl) ?_
    refine pf_X5_51 C hP hS (kd5_1 hk) dX5_setRule_43 (fun H locs hP hS => ?_)
    refine lv_iload_n hx hb dX5_setRule_46 rfl (lv_at hl 0 rfl) ?_
    exact retT_I C hP hS (nar_i _) rfl (by unfold x_X5_setRule; rw [if_pos c_1]) (by unfold f_X5_setRule; rw [if_pos c_1]) (by unfold s_X5_setRule; rw [if_pos c_1]) rfl dX5_setRule_47
  · refine lv_iload_n hx hb dX5_setRule_4 rfl (lv_at hl 1 rfl) ?_
    refine lv_iconst (v := 1) hx hb dX5_setRule_5 (by decide) ?_
    refine lv_icmp_eq (tgt := 19) hx hb dX5_setRule_6 (by decide) (fun c_6 => ?_) (fun c_6 => ?_)
    · refine lv_aload_n hx hb dX5_setRule_19 rfl (lv_at hl 0 rfl) ?_
      refine gf_X5_25 C hP hk dX5_setRule_20 ?_
      refine lv_aload_n hx hb dX5_setRule_23 rfl (lv_at hl 0 rfl) ?_
      refine gf_X5_10 C hP hk dX5_setRule_24 ?_
      refine thn_V (run_V (As := [.ref (z + (k + 1))]) (rest := []) C (k_X3_keep l D cy z o d σ τ (kd5_40 hk) (k + 1) (kd5_1 hk)) hP hS cw_X3_keep (mA2 (i := 124) rfl rfl) (kd5_40 hk) ⟨rfl, rfl⟩ ⟨Nat.le_of_ble_eq_true rfl, Nat.le_of_ble_eq_true rfl⟩ rfl (Nat.le_of_ble_eq_true rfl) hl.1 ⟨Nat.zero_le _, Nat.zero_le _⟩ dX5_setRule_27) hS (fun H locs hP hS => ?_)
      refine lv_aload_n hx hb dX5_setRule_30 rfl (lv_at hl 0 rfl) ?_
      refine gf_X5_10 C hP hk dX5_setRule_31 ?_
      refine gf_X5_51 C hP (kd5_1 hk) dX5_setRule_34 ?_
      refine lv_istore_n (lv' := [(2, .int ((s_X3_keep σ (k + 40) (k + 1)) (k + 1) 4)), (0, .ref (z + k)), (1, .int x)]) hx hb dX5_setRule_37 rfl hl (by decide) rfl (fun ls hl => ?_)
      refine lv_aload_n hx hb dX5_setRule_38 rfl (lv_at hl 1 rfl) ?_
      refine gf_X5_10 C hP hk dX5_setRule_39 ?_
      refine lv_iload_n hx hb dX5_setRule_42 rfl (lv_at hl 2 rfl) ?_
      refine pf_X5_51 C hP hS (kd5_1 hk) dX5_setRule_43 (fun H locs hP hS => ?_)
      refine lv_iload_n hx hb dX5_setRule_46 rfl (lv_at hl 0 rfl) ?_
      exact retT_I C hP hS (nar_i _) rfl (by unfold x_X5_setRule; rw [if_neg c_1, if_pos c_6]) (by unfold f_X5_setRule; rw [if_neg c_1, if_pos c_6]) (by unfold s_X5_setRule; rw [if_neg c_1, if_pos c_6]) rfl dX5_setRule_47
    · exact thr_X5 C hno hfl hP hS (ik := 44) (is := 107) (ic := 48) (T := 2) (text := "no such rule") (by unfold x_X5_setRule; rw [if_neg c_1, if_neg c_6]) (by decide) (by decide) vxi_2.1 vxi_2.2.1 vxi_2.2.2 (vxw vxa_x2) vxb_x2 vxc_x2 hl.1 dX5_setRule_9 dX5_setRule_12 dX5_setRule_13 dX5_setRule_15 dX5_setRule_18 (by decide) (by decide) (by unfold s_X5_setRule; rw [if_neg c_1, if_neg c_6]) rfl

theorem cw_X5_setCounts : cwVt yX5_setCounts cX5_setCounts 3 (some .int) 5 1 := ⟨(mA3 (i := 27) rfl rfl), (mA3 (i := 28) rfl rfl), (mA1 (i := 1) rfl rfl), (mA3 (i := 29) rfl rfl), by decide +kernel, ⟨_, rfl, rfl⟩, by decide⟩
def f_X5_setCounts (σ : Sg) (k : Nat) (x : Int32) : Int32 :=
  if x < 4 then
    0
  else
    if 400 < x then
      0
    else
      if (x - x / 4 * 4) = 0 then
        (s_X3_keep σ (k + 40) (k + 1)) (k + 1) 5
      else
        0
def s_X5_setCounts (σ : Sg) (k : Nat) (x : Int32) : Sg :=
  if x < 4 then
    σ
  else
    if 400 < x then
      σ
    else
      if (x - x / 4 * 4) = 0 then
        up (s_X3_keep σ (k + 40) (k + 1)) (k + 1) 5 x
      else
        σ
def x_X5_setCounts (σ : Sg) (k : Nat) (x : Int32) : Nat :=
  if x < 4 then
    2
  else
    if 400 < x then
      2
    else
      if (x - x / 4 * 4) = 0 then
        0
      else
        2
set_option maxHeartbeats 4000000 in
set_option maxRecDepth 100000 in
theorem k_X5_setCounts (l : Launch) (hfl : l.stackTraces = false) (D : va_G) (cy : Nat → ClassId) (z : Nat) (o : Int64) (d : UInt64) (σ τ : Sg) {k : Nat} (hk : kd k = 5) (x : Int32) : KT l yX5_setCounts cX5_setCounts 3 (some .int) 6 85 D cy z [.ref (z + k), .int x] o d σ τ (x_X5_setCounts σ k x) (PoTI D cy z o d (x_X5_setCounts σ k x) (f_X5_setCounts σ k x) (s_X5_setCounts σ k x) τ) (s_X5_setCounts σ k x) τ := by
  refine metT_of RX5 (by decide) rfl (Nat.le_of_ble_eq_true rfl) ?_
  intro p e s m args below meth c C hno hP hS ls hl
  obtain ⟨hx, hb, hr, hml, hown, hW, hlocks, hAm⟩ := id C
  have hl : lv_has ls 3 [(0, .ref (z + k)), (1, .int x)] := hl
  refine lv_iload_n hx hb dX5_setCounts_0 rfl (lv_at hl 1 rfl) ?_
  refine lv_iconst (v := 4) hx hb dX5_setCounts_1 (by decide) ?_
  refine lv_icmp_lt (tgt := 18) hx hb dX5_setCounts_2 (by decide) (fun c_2 => ?_) (fun c_2 => ?_)
  · exact thr_X5 C hno hfl hP hS (ik := 44) (is := 109) (ic := 48) (T := 2) (text := "no such counts") (by unfold x_X5_setCounts; rw [if_pos c_2]) (by decide) (by decide) vxi_2.1 vxi_2.2.1 vxi_2.2.2 (vxw vxa_x2) vxb_x2 vxc_x2 hl.1 dX5_setCounts_18 dX5_setCounts_21 dX5_setCounts_22 dX5_setCounts_24 dX5_setCounts_27 (by decide) (by decide) (by unfold s_X5_setCounts; rw [if_pos c_2]) rfl
  · refine lv_iload_n hx hb dX5_setCounts_5 rfl (lv_at hl 1 rfl) ?_
    refine lv_sipush (v := 400) hx hb dX5_setCounts_6 (by decide) ?_
    refine lv_icmp_gt (tgt := 18) hx hb dX5_setCounts_9 (by decide) (fun c_9 => ?_) (fun c_9 => ?_)
    · exact thr_X5 C hno hfl hP hS (ik := 44) (is := 109) (ic := 48) (T := 2) (text := "no such counts") (by unfold x_X5_setCounts; rw [if_neg c_2, if_pos c_9]) (by decide) (by decide) vxi_2.1 vxi_2.2.1 vxi_2.2.2 (vxw vxa_x2) vxb_x2 vxc_x2 hl.1 dX5_setCounts_18 dX5_setCounts_21 dX5_setCounts_22 dX5_setCounts_24 dX5_setCounts_27 (by decide) (by decide) (by unfold s_X5_setCounts; rw [if_neg c_2, if_pos c_9]) rfl
    · refine lv_iload_n hx hb dX5_setCounts_12 rfl (lv_at hl 1 rfl) ?_
      refine lv_iconst (v := 4) hx hb dX5_setCounts_13 (by decide) ?_
      refine lv_irem hx hb dX5_setCounts_14 (by decide) ?_
      refine lv_if_eq (tgt := 28) hx hb dX5_setCounts_15 (by decide) (fun c_15 => ?_) (fun c_15 => ?_)
      · refine lv_aload_n hx hb dX5_setCounts_28 rfl (lv_at hl 0 rfl) ?_
        refine gf_X5_25 C hP hk dX5_setCounts_29 ?_
        refine lv_aload_n hx hb dX5_setCounts_32 rfl (lv_at hl 0 rfl) ?_
        refine gf_X5_10 C hP hk dX5_setCounts_33 ?_
        refine thn_V (run_V (As := [.ref (z + (k + 1))]) (rest := []) C (k_X3_keep l D cy z o d σ τ (kd5_40 hk) (k + 1) (kd5_1 hk)) hP hS cw_X3_keep (mA2 (i := 124) rfl rfl) (kd5_40 hk) ⟨rfl, rfl⟩ ⟨Nat.le_of_ble_eq_true rfl, Nat.le_of_ble_eq_true rfl⟩ rfl (Nat.le_of_ble_eq_true rfl) hl.1 ⟨Nat.zero_le _, Nat.zero_le _⟩ dX5_setCounts_36) hS (fun H locs hP hS => ?_)
        refine lv_aload_n hx hb dX5_setCounts_39 rfl (lv_at hl 0 rfl) ?_
        refine gf_X5_10 C hP hk dX5_setCounts_40 ?_
        refine gf_X5_87 C hP (kd5_1 hk) dX5_setCounts_43 ?_
        refine lv_istore_n (lv' := [(2, .int ((s_X3_keep σ (k + 40) (k + 1)) (k + 1) 5)), (0, .ref (z + k)), (1, .int x)]) hx hb dX5_setCounts_46 rfl hl (by decide) rfl (fun ls hl => ?_)
        refine lv_aload_n hx hb dX5_setCounts_47 rfl (lv_at hl 1 rfl) ?_
        refine gf_X5_10 C hP hk dX5_setCounts_48 ?_
        refine lv_iload_n hx hb dX5_setCounts_51 rfl (lv_at hl 2 rfl) ?_
        refine pf_X5_87 C hP hS (kd5_1 hk) dX5_setCounts_52 (fun H locs hP hS => ?_)
        refine lv_iload_n hx hb dX5_setCounts_55 rfl (lv_at hl 0 rfl) ?_
        exact retT_I C hP hS (nar_i _) rfl (by unfold x_X5_setCounts; rw [if_neg c_2, if_neg c_9, if_pos c_15]) (by unfold f_X5_setCounts; rw [if_neg c_2, if_neg c_9, if_pos c_15]) (by unfold s_X5_setCounts; rw [if_neg c_2, if_neg c_9, if_pos c_15]) rfl dX5_setCounts_56
      · exact thr_X5 C hno hfl hP hS (ik := 44) (is := 109) (ic := 48) (T := 2) (text := "no such counts") (by unfold x_X5_setCounts; rw [if_neg c_2, if_neg c_9, if_neg c_15]) (by decide) (by decide) vxi_2.1 vxi_2.2.1 vxi_2.2.2 (vxw vxa_x2) vxb_x2 vxc_x2 hl.1 dX5_setCounts_18 dX5_setCounts_21 dX5_setCounts_22 dX5_setCounts_24 dX5_setCounts_27 (by decide) (by decide) (by unfold s_X5_setCounts; rw [if_neg c_2, if_neg c_9, if_neg c_15]) rfl
end
section
theorem cw_X5_stateOf : cwVt yX5_stateOf cX5_stateOf 2 (some .int) 5 1 := ⟨(mA2 (i := 81) rfl rfl), (mA2 (i := 82) rfl rfl), (mA1 (i := 1) rfl rfl), (mA2 (i := 83) rfl rfl), by decide +kernel, ⟨_, rfl, rfl⟩, by decide⟩
def f_X5_stateOf (σ : Sg) (k : Nat) (x : Int32) : Int32 :=
  if x_X5_snailNumbered σ k x = 0 then
    σ (f_X5_snailNumbered σ k x) 1
  else
    0
def x_X5_stateOf (σ : Sg) (k : Nat) (x : Int32) : Nat :=
  if x_X5_snailNumbered σ k x = 0 then
    0
  else
    x_X5_snailNumbered σ k x
set_option maxHeartbeats 4000000 in
set_option maxRecDepth 100000 in
theorem k_X5_stateOf (l : Launch) (hfl : l.stackTraces = false) (D : va_G) (cy : Nat → ClassId) (z : Nat) (o : Int64) (d : UInt64) (σ τ : Sg) {k : Nat} (hk : kd k = 5) (x : Int32) : KT l yX5_stateOf cX5_stateOf 2 (some .int) 7 103 D cy z [.ref (z + k), .int x] o d σ τ (x_X5_stateOf σ k x) (PoTI D cy z o d (x_X5_stateOf σ k x) (f_X5_stateOf σ k x) σ τ) σ τ := by
  refine metT_of RX5 (by decide) rfl (Nat.le_of_ble_eq_true rfl) ?_
  intro p e s m args below meth c C hno hP hS ls hl
  obtain ⟨hx, hb, hr, hml, hown, hW, hlocks, hAm⟩ := id C
  have hl : lv_has ls 2 [(0, .ref (z + k)), (1, .int x)] := hl
  refine lv_aload_n hx hb dX5_stateOf_0 rfl (lv_at hl 0 rfl) ?_
  refine lv_iload_n hx hb dX5_stateOf_1 rfl (lv_at hl 1 rfl) ?_
  by_cases c_2 : x_X5_snailNumbered σ k x = 0
  · refine okT_R c_2 (runT_V (As := [.int x]) (rest := []) C (k_X5_snailNumbered l hfl D cy z o d σ τ hk x) hP hS cw_X5_snailNumbered (mA1 (i := 198) rfl rfl) hk ⟨Nat.le_of_ble_eq_true rfl, Nat.le_of_ble_eq_true rfl⟩ rfl (Nat.le_of_ble_eq_true rfl) hl.1 (tcc_0 c_2 ⟨Nat.zero_le _, Nat.zero_le _⟩) dX5_stateOf_2) hS (fun H locs hP hS => ?_)
    refine gf_X5_154 C hP (kr_X5_snailNumbered σ hk x) dX5_stateOf_5 ?_
    exact retT_I C hP hS (nar_i _) rfl (by unfold x_X5_stateOf; rw [if_pos c_2]) (by unfold f_X5_stateOf; rw [if_pos c_2]) rfl rfl dX5_stateOf_8
  · exact outT (runT_V (As := [.int x]) (rest := []) C (k_X5_snailNumbered l hfl D cy z o d σ τ hk x) hP hS cw_X5_snailNumbered (mA1 (i := 198) rfl rfl) hk ⟨Nat.le_of_ble_eq_true rfl, Nat.le_of_ble_eq_true rfl⟩ rfl (Nat.le_of_ble_eq_true rfl) hl.1 (tcc_e (by unfold x_X5_stateOf; rw [if_neg c_2])) dX5_stateOf_2) z_R c_2 (by unfold x_X5_stateOf; rw [if_neg c_2]) hno hlocks hS rfl rfl

theorem cw_X5_positionOf : cwVt yX5_positionOf cX5_positionOf 2 (some .int) 5 1 := ⟨(mA2 (i := 65) rfl rfl), (mA2 (i := 66) rfl rfl), (mA1 (i := 1) rfl rfl), (mA2 (i := 67) rfl rfl), by decide +kernel, ⟨_, rfl, rfl⟩, by decide⟩
def f_X5_positionOf (σ : Sg) (k : Nat) (x : Int32) : Int32 :=
  if x_X5_snailNumbered σ k x = 0 then
    σ (f_X5_snailNumbered σ k x) 2
  else
    0
def x_X5_positionOf (σ : Sg) (k : Nat) (x : Int32) : Nat :=
  if x_X5_snailNumbered σ k x = 0 then
    0
  else
    x_X5_snailNumbered σ k x
set_option maxHeartbeats 4000000 in
set_option maxRecDepth 100000 in
theorem k_X5_positionOf (l : Launch) (hfl : l.stackTraces = false) (D : va_G) (cy : Nat → ClassId) (z : Nat) (o : Int64) (d : UInt64) (σ τ : Sg) {k : Nat} (hk : kd k = 5) (x : Int32) : KT l yX5_positionOf cX5_positionOf 2 (some .int) 7 103 D cy z [.ref (z + k), .int x] o d σ τ (x_X5_positionOf σ k x) (PoTI D cy z o d (x_X5_positionOf σ k x) (f_X5_positionOf σ k x) σ τ) σ τ := by
  refine metT_of RX5 (by decide) rfl (Nat.le_of_ble_eq_true rfl) ?_
  intro p e s m args below meth c C hno hP hS ls hl
  obtain ⟨hx, hb, hr, hml, hown, hW, hlocks, hAm⟩ := id C
  have hl : lv_has ls 2 [(0, .ref (z + k)), (1, .int x)] := hl
  refine lv_aload_n hx hb dX5_positionOf_0 rfl (lv_at hl 0 rfl) ?_
  refine lv_iload_n hx hb dX5_positionOf_1 rfl (lv_at hl 1 rfl) ?_
  by_cases c_2 : x_X5_snailNumbered σ k x = 0
  · refine okT_R c_2 (runT_V (As := [.int x]) (rest := []) C (k_X5_snailNumbered l hfl D cy z o d σ τ hk x) hP hS cw_X5_snailNumbered (mA1 (i := 198) rfl rfl) hk ⟨Nat.le_of_ble_eq_true rfl, Nat.le_of_ble_eq_true rfl⟩ rfl (Nat.le_of_ble_eq_true rfl) hl.1 (tcc_0 c_2 ⟨Nat.zero_le _, Nat.zero_le _⟩) dX5_positionOf_2) hS (fun H locs hP hS => ?_)
    refine gf_X5_84 C hP (kr_X5_snailNumbered σ hk x) dX5_positionOf_5 ?_
    exact retT_I C hP hS (nar_i _) rfl (by unfold x_X5_positionOf; rw [if_pos c_2]) (by unfold f_X5_positionOf; rw [if_pos c_2]) rfl rfl dX5_positionOf_8
  · exact outT (runT_V (As := [.int x]) (rest := []) C (k_X5_snailNumbered l hfl D cy z o d σ τ hk x) hP hS cw_X5_snailNumbered (mA1 (i := 198) rfl rfl) hk ⟨Nat.le_of_ble_eq_true rfl, Nat.le_of_ble_eq_true rfl⟩ rfl (Nat.le_of_ble_eq_true rfl) hl.1 (tcc_e (by unfold x_X5_positionOf; rw [if_neg c_2])) dX5_positionOf_2) z_R c_2 (by unfold x_X5_positionOf; rw [if_neg c_2]) hno hlocks hS rfl rfl

theorem cw_X5_positionByTracks : cwVt yX5_positionByTracks cX5_positionByTracks 3 (some .int) 5 1 := ⟨(mA3 (i := 38) rfl rfl), (mA3 (i := 39) rfl rfl), (mA1 (i := 1) rfl rfl), (mA3 (i := 40) rfl rfl), by decide +kernel, ⟨_, rfl, rfl⟩, by decide⟩
def f_X5_positionByTracks (σ : Sg) (k : Nat) (x : Int32) : Int32 :=
  if x_X5_snailNumbered σ k x = 0 then
    (((σ (f_X5_snailNumbered σ k x) 4) + (σ (f_X5_snailNumbered σ k x) 5)) + (σ (f_X5_snailNumbered σ k x) 6)) - (σ (f_X5_snailNumbered σ k x) 7)
  else
    0
def x_X5_positionByTracks (σ : Sg) (k : Nat) (x : Int32) : Nat :=
  if x_X5_snailNumbered σ k x = 0 then
    0
  else
    x_X5_snailNumbered σ k x
set_option maxHeartbeats 4000000 in
set_option maxRecDepth 100000 in
theorem k_X5_positionByTracks (l : Launch) (hfl : l.stackTraces = false) (D : va_G) (cy : Nat → ClassId) (z : Nat) (o : Int64) (d : UInt64) (σ τ : Sg) {k : Nat} (hk : kd k = 5) (x : Int32) : KT l yX5_positionByTracks cX5_positionByTracks 3 (some .int) 7 103 D cy z [.ref (z + k), .int x] o d σ τ (x_X5_positionByTracks σ k x) (PoTI D cy z o d (x_X5_positionByTracks σ k x) (f_X5_positionByTracks σ k x) σ τ) σ τ := by
  refine metT_of RX5 (by decide) rfl (Nat.le_of_ble_eq_true rfl) ?_
  intro p e s m args below meth c C hno hP hS ls hl
  obtain ⟨hx, hb, hr, hml, hown, hW, hlocks, hAm⟩ := id C
  have hl : lv_has ls 3 [(0, .ref (z + k)), (1, .int x)] := hl
  refine lv_aload_n hx hb dX5_positionByTracks_0 rfl (lv_at hl 0 rfl) ?_
  refine lv_iload_n hx hb dX5_positionByTracks_1 rfl (lv_at hl 1 rfl) ?_
  by_cases c_2 : x_X5_snailNumbered σ k x = 0
  · refine okT_R c_2 (runT_V (As := [.int x]) (rest := []) C (k_X5_snailNumbered l hfl D cy z o d σ τ hk x) hP hS cw_X5_snailNumbered (mA1 (i := 198) rfl rfl) hk ⟨Nat.le_of_ble_eq_true rfl, Nat.le_of_ble_eq_true rfl⟩ rfl (Nat.le_of_ble_eq_true rfl) hl.1 (tcc_0 c_2 ⟨Nat.zero_le _, Nat.zero_le _⟩) dX5_positionByTracks_2) hS (fun H locs hP hS => ?_)
    refine lv_astore_n (lv' := [(2, .ref (z + (f_X5_snailNumbered σ k x))), (0, .ref (z + k)), (1, .int x)]) hx hb dX5_positionByTracks_5 rfl hl (by decide) rfl (fun ls hl => ?_)
    refine lv_aload_n hx hb dX5_positionByTracks_6 rfl (lv_at hl 0 rfl) ?_
    refine gf_X5_157 C hP (kr_X5_snailNumbered σ hk x) dX5_positionByTracks_7 ?_
    refine lv_aload_n hx hb dX5_positionByTracks_10 rfl (lv_at hl 0 rfl) ?_
    refine gf_X5_160 C hP (kr_X5_snailNumbered σ hk x) dX5_positionByTracks_11 ?_
    refine lv_iadd hx hb dX5_positionByTracks_14 ?_
    refine lv_aload_n hx hb dX5_positionByTracks_15 rfl (lv_at hl 0 rfl) ?_
    refine gf_X5_163 C hP (kr_X5_snailNumbered σ hk x) dX5_positionByTracks_16 ?_
    refine lv_iadd hx hb dX5_positionByTracks_19 ?_
    refine lv_aload_n hx hb dX5_positionByTracks_20 rfl (lv_at hl 0 rfl) ?_
    refine gf_X5_166 C hP (kr_X5_snailNumbered σ hk x) dX5_positionByTracks_21 ?_
    refine lv_isub hx hb dX5_positionByTracks_24 ?_
    exact retT_I C hP hS (nar_i _) rfl (by unfold x_X5_positionByTracks; rw [if_pos c_2]) (by unfold f_X5_positionByTracks; rw [if_pos c_2]) rfl rfl dX5_positionByTracks_25
  · exact outT (runT_V (As := [.int x]) (rest := []) C (k_X5_snailNumbered l hfl D cy z o d σ τ hk x) hP hS cw_X5_snailNumbered (mA1 (i := 198) rfl rfl) hk ⟨Nat.le_of_ble_eq_true rfl, Nat.le_of_ble_eq_true rfl⟩ rfl (Nat.le_of_ble_eq_true rfl) hl.1 (tcc_e (by unfold x_X5_positionByTracks; rw [if_neg c_2])) dX5_positionByTracks_2) z_R c_2 (by unfold x_X5_positionByTracks; rw [if_neg c_2]) hno hlocks hS rfl rfl

theorem cw_X5_turnsOf : cwVt yX5_turnsOf cX5_turnsOf 2 (some .int) 5 1 := ⟨(mA3 (i := 42) rfl rfl), (mA3 (i := 43) rfl rfl), (mA1 (i := 1) rfl rfl), (mA3 (i := 44) rfl rfl), by decide +kernel, ⟨_, rfl, rfl⟩, by decide⟩
def f_X5_turnsOf (σ : Sg) (k : Nat) (x : Int32) : Int32 :=
  if x_X5_snailNumbered σ k x = 0 then
    f_X4_turnsOver σ (f_X5_snailNumbered σ k x) (σ (k + 1) 5)
  else
    0
def x_X5_turnsOf (σ : Sg) (k : Nat) (x : Int32) : Nat :=
  if x_X5_snailNumbered σ k x = 0 then
    0
  else
    x_X5_snailNumbered σ k x
set_option maxHeartbeats 4000000 in
set_option maxRecDepth 100000 in
theorem k_X5_turnsOf (l : Launch) (hfl : l.stackTraces = false) (D : va_G) (cy : Nat → ClassId) (z : Nat) (o : Int64) (d : UInt64) (σ τ : Sg) {k : Nat} (hk : kd k = 5) (x : Int32) : KT l yX5_turnsOf cX5_turnsOf 2 (some .int) 7 103 D cy z [.ref (z + k), .int x] o d σ τ (x_X5_turnsOf σ k x) (PoTI D cy z o d (x_X5_turnsOf σ k x) (f_X5_turnsOf σ k x) σ τ) σ τ := by
  refine metT_of RX5 (by decide) rfl (Nat.le_of_ble_eq_true rfl) ?_
  intro p e s m args below meth c C hno hP hS ls hl
  obtain ⟨hx, hb, hr, hml, hown, hW, hlocks, hAm⟩ := id C
  have hl : lv_has ls 2 [(0, .ref (z + k)), (1, .int x)] := hl
  refine lv_aload_n hx hb dX5_turnsOf_0 rfl (lv_at hl 0 rfl) ?_
  refine lv_iload_n hx hb dX5_turnsOf_1 rfl (lv_at hl 1 rfl) ?_
  by_cases c_2 : x_X5_snailNumbered σ k x = 0
  · refine okT_R c_2 (runT_V (As := [.int x]) (rest := []) C (k_X5_snailNumbered l hfl D cy z o d σ τ hk x) hP hS cw_X5_snailNumbered (mA1 (i := 198) rfl rfl) hk ⟨Nat.le_of_ble_eq_true rfl, Nat.le_of_ble_eq_true rfl⟩ rfl (Nat.le_of_ble_eq_true rfl) hl.1 (tcc_0 c_2 ⟨Nat.zero_le _, Nat.zero_le _⟩) dX5_turnsOf_2) hS (fun H locs hP hS => ?_)
    refine lv_aload_n hx hb dX5_turnsOf_5 rfl (lv_at hl 0 rfl) ?_
    refine gf_X5_10 C hP hk dX5_turnsOf_6 ?_
    refine gf_X5_87 C hP (kd5_1 hk) dX5_turnsOf_9 ?_
    refine thn_I (run_V (As := [.int (σ (k + 1) 5)]) (rest := []) C (k_X4_turnsOver l D cy z o d σ τ (kr_X5_snailNumbered σ hk x) (σ (k + 1) 5)) hP hS cw_X4_turnsOver (mA3 (i := 45) rfl rfl) (kr_X5_snailNumbered σ hk x) ⟨rfl, rfl⟩ ⟨Nat.le_of_ble_eq_true rfl, Nat.le_of_ble_eq_true rfl⟩ rfl (Nat.le_of_ble_eq_true rfl) hl.1 ⟨Nat.zero_le _, Nat.zero_le _⟩ dX5_turnsOf_12) hS (fun H locs hP hS => ?_)
    exact retT_I C hP hS (nar_i _) rfl (by unfold x_X5_turnsOf; rw [if_pos c_2]) (by unfold f_X5_turnsOf; rw [if_pos c_2]) rfl rfl dX5_turnsOf_15
  · exact outT (runT_V (As := [.int x]) (rest := []) C (k_X5_snailNumbered l hfl D cy z o d σ τ hk x) hP hS cw_X5_snailNumbered (mA1 (i := 198) rfl rfl) hk ⟨Nat.le_of_ble_eq_true rfl, Nat.le_of_ble_eq_true rfl⟩ rfl (Nat.le_of_ble_eq_true rfl) hl.1 (tcc_e (by unfold x_X5_turnsOf; rw [if_neg c_2])) dX5_turnsOf_2) z_R c_2 (by unfold x_X5_turnsOf; rw [if_neg c_2]) hno hlocks hS rfl rfl

theorem cw_X5_placeOf : cwVt yX5_placeOf cX5_placeOf 2 (some .int) 5 1 := ⟨(mA2 (i := 199) rfl rfl), (mA2 (i := 200) rfl rfl), (mA1 (i := 1) rfl rfl), (mA2 (i := 201) rfl rfl), by decide +kernel, ⟨_, rfl, rfl⟩, by decide⟩
def f_X5_placeOf (σ : Sg) (k : Nat) (x : Int32) : Int32 :=
  if x_X5_snailNumbered σ k x = 0 then
    f_X4_placeIn σ (f_X5_snailNumbered σ k x) (σ (k + 1) 5)
  else
    0
def x_X5_placeOf (σ : Sg) (k : Nat) (x : Int32) : Nat :=
  if x_X5_snailNumbered σ k x = 0 then
    0
  else
    x_X5_snailNumbered σ k x
set_option maxHeartbeats 4000000 in
set_option maxRecDepth 100000 in
theorem k_X5_placeOf (l : Launch) (hfl : l.stackTraces = false) (D : va_G) (cy : Nat → ClassId) (z : Nat) (o : Int64) (d : UInt64) (σ τ : Sg) {k : Nat} (hk : kd k = 5) (x : Int32) : KT l yX5_placeOf cX5_placeOf 2 (some .int) 7 103 D cy z [.ref (z + k), .int x] o d σ τ (x_X5_placeOf σ k x) (PoTI D cy z o d (x_X5_placeOf σ k x) (f_X5_placeOf σ k x) σ τ) σ τ := by
  refine metT_of RX5 (by decide) rfl (Nat.le_of_ble_eq_true rfl) ?_
  intro p e s m args below meth c C hno hP hS ls hl
  obtain ⟨hx, hb, hr, hml, hown, hW, hlocks, hAm⟩ := id C
  have hl : lv_has ls 2 [(0, .ref (z + k)), (1, .int x)] := hl
  refine lv_aload_n hx hb dX5_placeOf_0 rfl (lv_at hl 0 rfl) ?_
  refine lv_iload_n hx hb dX5_placeOf_1 rfl (lv_at hl 1 rfl) ?_
  by_cases c_2 : x_X5_snailNumbered σ k x = 0
  · refine okT_R c_2 (runT_V (As := [.int x]) (rest := []) C (k_X5_snailNumbered l hfl D cy z o d σ τ hk x) hP hS cw_X5_snailNumbered (mA1 (i := 198) rfl rfl) hk ⟨Nat.le_of_ble_eq_true rfl, Nat.le_of_ble_eq_true rfl⟩ rfl (Nat.le_of_ble_eq_true rfl) hl.1 (tcc_0 c_2 ⟨Nat.zero_le _, Nat.zero_le _⟩) dX5_placeOf_2) hS (fun H locs hP hS => ?_)
    refine lv_aload_n hx hb dX5_placeOf_5 rfl (lv_at hl 0 rfl) ?_
    refine gf_X5_10 C hP hk dX5_placeOf_6 ?_
    refine gf_X5_87 C hP (kd5_1 hk) dX5_placeOf_9 ?_
    refine thn_I (run_V (As := [.int (σ (k + 1) 5)]) (rest := []) C (k_X4_placeIn l D cy z o d σ τ (kr_X5_snailNumbered σ hk x) (σ (k + 1) 5)) hP hS cw_X4_placeIn (mA2 (i := 202) rfl rfl) (kr_X5_snailNumbered σ hk x) ⟨rfl, rfl⟩ ⟨Nat.le_of_ble_eq_true rfl, Nat.le_of_ble_eq_true rfl⟩ rfl (Nat.le_of_ble_eq_true rfl) hl.1 ⟨Nat.zero_le _, Nat.zero_le _⟩ dX5_placeOf_12) hS (fun H locs hP hS => ?_)
    exact retT_I C hP hS (nar_i _) rfl (by unfold x_X5_placeOf; rw [if_pos c_2]) (by unfold f_X5_placeOf; rw [if_pos c_2]) rfl rfl dX5_placeOf_15
  · exact outT (runT_V (As := [.int x]) (rest := []) C (k_X5_snailNumbered l hfl D cy z o d σ τ hk x) hP hS cw_X5_snailNumbered (mA1 (i := 198) rfl rfl) hk ⟨Nat.le_of_ble_eq_true rfl, Nat.le_of_ble_eq_true rfl⟩ rfl (Nat.le_of_ble_eq_true rfl) hl.1 (tcc_e (by unfold x_X5_placeOf; rw [if_neg c_2])) dX5_placeOf_2) z_R c_2 (by unfold x_X5_placeOf; rw [if_neg c_2]) hno hlocks hS rfl rfl

theorem cw_X5_directionOf : cwVt yX5_directionOf cX5_directionOf 2 (some .int) 5 1 := ⟨(mA2 (i := 77) rfl rfl), (mA2 (i := 78) rfl rfl), (mA1 (i := 1) rfl rfl), (mA2 (i := 79) rfl rfl), by decide +kernel, ⟨_, rfl, rfl⟩, by decide⟩
def f_X5_directionOf (σ : Sg) (k : Nat) (x : Int32) : Int32 :=
  if x_X5_snailNumbered σ k x = 0 then
    σ (f_X5_snailNumbered σ k x) 3
  else
    0
def x_X5_directionOf (σ : Sg) (k : Nat) (x : Int32) : Nat :=
  if x_X5_snailNumbered σ k x = 0 then
    0
  else
    x_X5_snailNumbered σ k x
set_option maxHeartbeats 4000000 in
set_option maxRecDepth 100000 in
theorem k_X5_directionOf (l : Launch) (hfl : l.stackTraces = false) (D : va_G) (cy : Nat → ClassId) (z : Nat) (o : Int64) (d : UInt64) (σ τ : Sg) {k : Nat} (hk : kd k = 5) (x : Int32) : KT l yX5_directionOf cX5_directionOf 2 (some .int) 7 103 D cy z [.ref (z + k), .int x] o d σ τ (x_X5_directionOf σ k x) (PoTI D cy z o d (x_X5_directionOf σ k x) (f_X5_directionOf σ k x) σ τ) σ τ := by
  refine metT_of RX5 (by decide) rfl (Nat.le_of_ble_eq_true rfl) ?_
  intro p e s m args below meth c C hno hP hS ls hl
  obtain ⟨hx, hb, hr, hml, hown, hW, hlocks, hAm⟩ := id C
  have hl : lv_has ls 2 [(0, .ref (z + k)), (1, .int x)] := hl
  refine lv_aload_n hx hb dX5_directionOf_0 rfl (lv_at hl 0 rfl) ?_
  refine lv_iload_n hx hb dX5_directionOf_1 rfl (lv_at hl 1 rfl) ?_
  by_cases c_2 : x_X5_snailNumbered σ k x = 0
  · refine okT_R c_2 (runT_V (As := [.int x]) (rest := []) C (k_X5_snailNumbered l hfl D cy z o d σ τ hk x) hP hS cw_X5_snailNumbered (mA1 (i := 198) rfl rfl) hk ⟨Nat.le_of_ble_eq_true rfl, Nat.le_of_ble_eq_true rfl⟩ rfl (Nat.le_of_ble_eq_true rfl) hl.1 (tcc_0 c_2 ⟨Nat.zero_le _, Nat.zero_le _⟩) dX5_directionOf_2) hS (fun H locs hP hS => ?_)
    refine gf_X5_175 C hP (kr_X5_snailNumbered σ hk x) dX5_directionOf_5 ?_
    exact retT_I C hP hS (nar_i _) rfl (by unfold x_X5_directionOf; rw [if_pos c_2]) (by unfold f_X5_directionOf; rw [if_pos c_2]) rfl rfl dX5_directionOf_8
  · exact outT (runT_V (As := [.int x]) (rest := []) C (k_X5_snailNumbered l hfl D cy z o d σ τ hk x) hP hS cw_X5_snailNumbered (mA1 (i := 198) rfl rfl) hk ⟨Nat.le_of_ble_eq_true rfl, Nat.le_of_ble_eq_true rfl⟩ rfl (Nat.le_of_ble_eq_true rfl) hl.1 (tcc_e (by unfold x_X5_directionOf; rw [if_neg c_2])) dX5_directionOf_2) z_R c_2 (by unfold x_X5_directionOf; rw [if_neg c_2]) hno hlocks hS rfl rfl

theorem cw_X5_countOfA : cwVt yX5_countOfA cX5_countOfA 2 (some .int) 5 1 := ⟨(mA2 (i := 230) rfl rfl), (mA2 (i := 231) rfl rfl), (mA1 (i := 1) rfl rfl), (mA2 (i := 232) rfl rfl), by decide +kernel, ⟨_, rfl, rfl⟩, by decide⟩
def f_X5_countOfA (σ : Sg) (k : Nat) (x : Int32) : Int32 :=
  if x_X5_snailNumbered σ k x = 0 then
    σ (f_X5_snailNumbered σ k x) 4
  else
    0
def x_X5_countOfA (σ : Sg) (k : Nat) (x : Int32) : Nat :=
  if x_X5_snailNumbered σ k x = 0 then
    0
  else
    x_X5_snailNumbered σ k x
set_option maxHeartbeats 4000000 in
set_option maxRecDepth 100000 in
theorem k_X5_countOfA (l : Launch) (hfl : l.stackTraces = false) (D : va_G) (cy : Nat → ClassId) (z : Nat) (o : Int64) (d : UInt64) (σ τ : Sg) {k : Nat} (hk : kd k = 5) (x : Int32) : KT l yX5_countOfA cX5_countOfA 2 (some .int) 7 103 D cy z [.ref (z + k), .int x] o d σ τ (x_X5_countOfA σ k x) (PoTI D cy z o d (x_X5_countOfA σ k x) (f_X5_countOfA σ k x) σ τ) σ τ := by
  refine metT_of RX5 (by decide) rfl (Nat.le_of_ble_eq_true rfl) ?_
  intro p e s m args below meth c C hno hP hS ls hl
  obtain ⟨hx, hb, hr, hml, hown, hW, hlocks, hAm⟩ := id C
  have hl : lv_has ls 2 [(0, .ref (z + k)), (1, .int x)] := hl
  refine lv_aload_n hx hb dX5_countOfA_0 rfl (lv_at hl 0 rfl) ?_
  refine lv_iload_n hx hb dX5_countOfA_1 rfl (lv_at hl 1 rfl) ?_
  by_cases c_2 : x_X5_snailNumbered σ k x = 0
  · refine okT_R c_2 (runT_V (As := [.int x]) (rest := []) C (k_X5_snailNumbered l hfl D cy z o d σ τ hk x) hP hS cw_X5_snailNumbered (mA1 (i := 198) rfl rfl) hk ⟨Nat.le_of_ble_eq_true rfl, Nat.le_of_ble_eq_true rfl⟩ rfl (Nat.le_of_ble_eq_true rfl) hl.1 (tcc_0 c_2 ⟨Nat.zero_le _, Nat.zero_le _⟩) dX5_countOfA_2) hS (fun H locs hP hS => ?_)
    refine gf_X5_157 C hP (kr_X5_snailNumbered σ hk x) dX5_countOfA_5 ?_
    exact retT_I C hP hS (nar_i _) rfl (by unfold x_X5_countOfA; rw [if_pos c_2]) (by unfold f_X5_countOfA; rw [if_pos c_2]) rfl rfl dX5_countOfA_8
  · exact outT (runT_V (As := [.int x]) (rest := []) C (k_X5_snailNumbered l hfl D cy z o d σ τ hk x) hP hS cw_X5_snailNumbered (mA1 (i := 198) rfl rfl) hk ⟨Nat.le_of_ble_eq_true rfl, Nat.le_of_ble_eq_true rfl⟩ rfl (Nat.le_of_ble_eq_true rfl) hl.1 (tcc_e (by unfold x_X5_countOfA; rw [if_neg c_2])) dX5_countOfA_2) z_R c_2 (by unfold x_X5_countOfA; rw [if_neg c_2]) hno hlocks hS rfl rfl

theorem cw_X5_logLength : cwVt yX5_logLength cX5_logLength 2 (some .int) 5 1 := ⟨(mA2 (i := 73) rfl rfl), (mA2 (i := 74) rfl rfl), (mA1 (i := 1) rfl rfl), (mA2 (i := 75) rfl rfl), by decide +kernel, ⟨_, rfl, rfl⟩, by decide⟩
def f_X5_logLength (σ : Sg) (k : Nat) (x : Int32) : Int32 :=
  if x_X5_snailNumbered σ k x = 0 then
    σ (f_X5_snailNumbered σ k x + 1) 2
  else
    0
def x_X5_logLength (σ : Sg) (k : Nat) (x : Int32) : Nat :=
  if x_X5_snailNumbered σ k x = 0 then
    0
  else
    x_X5_snailNumbered σ k x
set_option maxHeartbeats 4000000 in
set_option maxRecDepth 100000 in
theorem k_X5_logLength (l : Launch) (hfl : l.stackTraces = false) (D : va_G) (cy : Nat → ClassId) (z : Nat) (o : Int64) (d : UInt64) (σ τ : Sg) {k : Nat} (hk : kd k = 5) (x : Int32) : KT l yX5_logLength cX5_logLength 2 (some .int) 7 103 D cy z [.ref (z + k), .int x] o d σ τ (x_X5_logLength σ k x) (PoTI D cy z o d (x_X5_logLength σ k x) (f_X5_logLength σ k x) σ τ) σ τ := by
  refine metT_of RX5 (by decide) rfl (Nat.le_of_ble_eq_true rfl) ?_
  intro p e s m args below meth c C hno hP hS ls hl
  obtain ⟨hx, hb, hr, hml, hown, hW, hlocks, hAm⟩ := id C
  have hl : lv_has ls 2 [(0, .ref (z + k)), (1, .int x)] := hl
  refine lv_aload_n hx hb dX5_logLength_0 rfl (lv_at hl 0 rfl) ?_
  refine lv_iload_n hx hb dX5_logLength_1 rfl (lv_at hl 1 rfl) ?_
  by_cases c_2 : x_X5_snailNumbered σ k x = 0
  · refine okT_R c_2 (runT_V (As := [.int x]) (rest := []) C (k_X5_snailNumbered l hfl D cy z o d σ τ hk x) hP hS cw_X5_snailNumbered (mA1 (i := 198) rfl rfl) hk ⟨Nat.le_of_ble_eq_true rfl, Nat.le_of_ble_eq_true rfl⟩ rfl (Nat.le_of_ble_eq_true rfl) hl.1 (tcc_0 c_2 ⟨Nat.zero_le _, Nat.zero_le _⟩) dX5_logLength_2) hS (fun H locs hP hS => ?_)
    refine gf_X5_181 C hP (kr_X5_snailNumbered σ hk x) dX5_logLength_5 ?_
    refine gf_X5_185 C hP (kd4_1 (kr_X5_snailNumbered σ hk x)) dX5_logLength_8 ?_
    exact retT_I C hP hS (nar_i _) rfl (by unfold x_X5_logLength; rw [if_pos c_2]) (by unfold f_X5_logLength; rw [if_pos c_2]) rfl rfl dX5_logLength_11
  · exact outT (runT_V (As := [.int x]) (rest := []) C (k_X5_snailNumbered l hfl D cy z o d σ τ hk x) hP hS cw_X5_snailNumbered (mA1 (i := 198) rfl rfl) hk ⟨Nat.le_of_ble_eq_true rfl, Nat.le_of_ble_eq_true rfl⟩ rfl (Nat.le_of_ble_eq_true rfl) hl.1 (tcc_e (by unfold x_X5_logLength; rw [if_neg c_2])) dX5_logLength_2) z_R c_2 (by unfold x_X5_logLength; rw [if_neg c_2]) hno hlocks hS rfl rfl

theorem cw_X5_errorsOf : cwVt yX5_errorsOf cX5_errorsOf 2 (some .int) 5 1 := ⟨(mA2 (i := 85) rfl rfl), (mA2 (i := 86) rfl rfl), (mA1 (i := 1) rfl rfl), (mA2 (i := 87) rfl rfl), by decide +kernel, ⟨_, rfl, rfl⟩, by decide⟩
def f_X5_errorsOf (σ : Sg) (k : Nat) (x : Int32) : Int32 :=
  if x_X5_snailNumbered σ k x = 0 then
    σ (f_X5_snailNumbered σ k x) 8
  else
    0
def x_X5_errorsOf (σ : Sg) (k : Nat) (x : Int32) : Nat :=
  if x_X5_snailNumbered σ k x = 0 then
    0
  else
    x_X5_snailNumbered σ k x
set_option maxHeartbeats 4000000 in
set_option maxRecDepth 100000 in
theorem k_X5_errorsOf (l : Launch) (hfl : l.stackTraces = false) (D : va_G) (cy : Nat → ClassId) (z : Nat) (o : Int64) (d : UInt64) (σ τ : Sg) {k : Nat} (hk : kd k = 5) (x : Int32) : KT l yX5_errorsOf cX5_errorsOf 2 (some .int) 7 103 D cy z [.ref (z + k), .int x] o d σ τ (x_X5_errorsOf σ k x) (PoTI D cy z o d (x_X5_errorsOf σ k x) (f_X5_errorsOf σ k x) σ τ) σ τ := by
  refine metT_of RX5 (by decide) rfl (Nat.le_of_ble_eq_true rfl) ?_
  intro p e s m args below meth c C hno hP hS ls hl
  obtain ⟨hx, hb, hr, hml, hown, hW, hlocks, hAm⟩ := id C
  have hl : lv_has ls 2 [(0, .ref (z + k)), (1, .int x)] := hl
  refine lv_aload_n hx hb dX5_errorsOf_0 rfl (lv_at hl 0 rfl) ?_
  refine lv_iload_n hx hb dX5_errorsOf_1 rfl (lv_at hl 1 rfl) ?_
  by_cases c_2 : x_X5_snailNumbered σ k x = 0
  · refine okT_R c_2 (runT_V (As := [.int x]) (rest := []) C (k_X5_snailNumbered l hfl D cy z o d σ τ hk x) hP hS cw_X5_snailNumbered (mA1 (i := 198) rfl rfl) hk ⟨Nat.le_of_ble_eq_true rfl, Nat.le_of_ble_eq_true rfl⟩ rfl (Nat.le_of_ble_eq_true rfl) hl.1 (tcc_0 c_2 ⟨Nat.zero_le _, Nat.zero_le _⟩) dX5_errorsOf_2) hS (fun H locs hP hS => ?_)
    refine gf_X5_200 C hP (kr_X5_snailNumbered σ hk x) dX5_errorsOf_5 ?_
    exact retT_I C hP hS (nar_i _) rfl (by unfold x_X5_errorsOf; rw [if_pos c_2]) (by unfold f_X5_errorsOf; rw [if_pos c_2]) rfl rfl dX5_errorsOf_8
  · exact outT (runT_V (As := [.int x]) (rest := []) C (k_X5_snailNumbered l hfl D cy z o d σ τ hk x) hP hS cw_X5_snailNumbered (mA1 (i := 198) rfl rfl) hk ⟨Nat.le_of_ble_eq_true rfl, Nat.le_of_ble_eq_true rfl⟩ rfl (Nat.le_of_ble_eq_true rfl) hl.1 (tcc_e (by unfold x_X5_errorsOf; rw [if_neg c_2])) dX5_errorsOf_2) z_R c_2 (by unfold x_X5_errorsOf; rw [if_neg c_2]) hno hlocks hS rfl rfl

theorem cw_X5_slipsOf : cwVt yX5_slipsOf cX5_slipsOf 2 (some .int) 5 1 := ⟨(mA2 (i := 210) rfl rfl), (mA2 (i := 211) rfl rfl), (mA1 (i := 1) rfl rfl), (mA2 (i := 212) rfl rfl), by decide +kernel, ⟨_, rfl, rfl⟩, by decide⟩
def f_X5_slipsOf (σ : Sg) (k : Nat) (x : Int32) : Int32 :=
  if x_X5_snailNumbered σ k x = 0 then
    σ (f_X5_snailNumbered σ k x) 9
  else
    0
def x_X5_slipsOf (σ : Sg) (k : Nat) (x : Int32) : Nat :=
  if x_X5_snailNumbered σ k x = 0 then
    0
  else
    x_X5_snailNumbered σ k x
set_option maxHeartbeats 4000000 in
set_option maxRecDepth 100000 in
theorem k_X5_slipsOf (l : Launch) (hfl : l.stackTraces = false) (D : va_G) (cy : Nat → ClassId) (z : Nat) (o : Int64) (d : UInt64) (σ τ : Sg) {k : Nat} (hk : kd k = 5) (x : Int32) : KT l yX5_slipsOf cX5_slipsOf 2 (some .int) 7 103 D cy z [.ref (z + k), .int x] o d σ τ (x_X5_slipsOf σ k x) (PoTI D cy z o d (x_X5_slipsOf σ k x) (f_X5_slipsOf σ k x) σ τ) σ τ := by
  refine metT_of RX5 (by decide) rfl (Nat.le_of_ble_eq_true rfl) ?_
  intro p e s m args below meth c C hno hP hS ls hl
  obtain ⟨hx, hb, hr, hml, hown, hW, hlocks, hAm⟩ := id C
  have hl : lv_has ls 2 [(0, .ref (z + k)), (1, .int x)] := hl
  refine lv_aload_n hx hb dX5_slipsOf_0 rfl (lv_at hl 0 rfl) ?_
  refine lv_iload_n hx hb dX5_slipsOf_1 rfl (lv_at hl 1 rfl) ?_
  by_cases c_2 : x_X5_snailNumbered σ k x = 0
  · refine okT_R c_2 (runT_V (As := [.int x]) (rest := []) C (k_X5_snailNumbered l hfl D cy z o d σ τ hk x) hP hS cw_X5_snailNumbered (mA1 (i := 198) rfl rfl) hk ⟨Nat.le_of_ble_eq_true rfl, Nat.le_of_ble_eq_true rfl⟩ rfl (Nat.le_of_ble_eq_true rfl) hl.1 (tcc_0 c_2 ⟨Nat.zero_le _, Nat.zero_le _⟩) dX5_slipsOf_2) hS (fun H locs hP hS => ?_)
    refine gf_X5_203 C hP (kr_X5_snailNumbered σ hk x) dX5_slipsOf_5 ?_
    exact retT_I C hP hS (nar_i _) rfl (by unfold x_X5_slipsOf; rw [if_pos c_2]) (by unfold f_X5_slipsOf; rw [if_pos c_2]) rfl rfl dX5_slipsOf_8
  · exact outT (runT_V (As := [.int x]) (rest := []) C (k_X5_snailNumbered l hfl D cy z o d σ τ hk x) hP hS cw_X5_snailNumbered (mA1 (i := 198) rfl rfl) hk ⟨Nat.le_of_ble_eq_true rfl, Nat.le_of_ble_eq_true rfl⟩ rfl (Nat.le_of_ble_eq_true rfl) hl.1 (tcc_e (by unfold x_X5_slipsOf; rw [if_neg c_2])) dX5_slipsOf_2) z_R c_2 (by unfold x_X5_slipsOf; rw [if_neg c_2]) hno hlocks hS rfl rfl

theorem cw_X5_distanceOf : cwVt yX5_distanceOf cX5_distanceOf 2 (some .int) 5 1 := ⟨(mA2 (i := 89) rfl rfl), (mA2 (i := 90) rfl rfl), (mA1 (i := 1) rfl rfl), (mA2 (i := 91) rfl rfl), by decide +kernel, ⟨_, rfl, rfl⟩, by decide⟩
def f_X5_distanceOf (σ : Sg) (k : Nat) (x : Int32) : Int32 :=
  if x_X5_snailNumbered σ k x = 0 then
    σ (f_X5_snailNumbered σ k x) 10
  else
    0
def x_X5_distanceOf (σ : Sg) (k : Nat) (x : Int32) : Nat :=
  if x_X5_snailNumbered σ k x = 0 then
    0
  else
    x_X5_snailNumbered σ k x
set_option maxHeartbeats 4000000 in
set_option maxRecDepth 100000 in
theorem k_X5_distanceOf (l : Launch) (hfl : l.stackTraces = false) (D : va_G) (cy : Nat → ClassId) (z : Nat) (o : Int64) (d : UInt64) (σ τ : Sg) {k : Nat} (hk : kd k = 5) (x : Int32) : KT l yX5_distanceOf cX5_distanceOf 2 (some .int) 7 103 D cy z [.ref (z + k), .int x] o d σ τ (x_X5_distanceOf σ k x) (PoTI D cy z o d (x_X5_distanceOf σ k x) (f_X5_distanceOf σ k x) σ τ) σ τ := by
  refine metT_of RX5 (by decide) rfl (Nat.le_of_ble_eq_true rfl) ?_
  intro p e s m args below meth c C hno hP hS ls hl
  obtain ⟨hx, hb, hr, hml, hown, hW, hlocks, hAm⟩ := id C
  have hl : lv_has ls 2 [(0, .ref (z + k)), (1, .int x)] := hl
  refine lv_aload_n hx hb dX5_distanceOf_0 rfl (lv_at hl 0 rfl) ?_
  refine lv_iload_n hx hb dX5_distanceOf_1 rfl (lv_at hl 1 rfl) ?_
  by_cases c_2 : x_X5_snailNumbered σ k x = 0
  · refine okT_R c_2 (runT_V (As := [.int x]) (rest := []) C (k_X5_snailNumbered l hfl D cy z o d σ τ hk x) hP hS cw_X5_snailNumbered (mA1 (i := 198) rfl rfl) hk ⟨Nat.le_of_ble_eq_true rfl, Nat.le_of_ble_eq_true rfl⟩ rfl (Nat.le_of_ble_eq_true rfl) hl.1 (tcc_0 c_2 ⟨Nat.zero_le _, Nat.zero_le _⟩) dX5_distanceOf_2) hS (fun H locs hP hS => ?_)
    refine gf_X5_206 C hP (kr_X5_snailNumbered σ hk x) dX5_distanceOf_5 ?_
    exact retT_I C hP hS (nar_i _) rfl (by unfold x_X5_distanceOf; rw [if_pos c_2]) (by unfold f_X5_distanceOf; rw [if_pos c_2]) rfl rfl dX5_distanceOf_8
  · exact outT (runT_V (As := [.int x]) (rest := []) C (k_X5_snailNumbered l hfl D cy z o d σ τ hk x) hP hS cw_X5_snailNumbered (mA1 (i := 198) rfl rfl) hk ⟨Nat.le_of_ble_eq_true rfl, Nat.le_of_ble_eq_true rfl⟩ rfl (Nat.le_of_ble_eq_true rfl) hl.1 (tcc_e (by unfold x_X5_distanceOf; rw [if_neg c_2])) dX5_distanceOf_2) z_R c_2 (by unfold x_X5_distanceOf; rw [if_neg c_2]) hno hlocks hS rfl rfl

theorem cw_X5_ticksOf : cwVt yX5_ticksOf cX5_ticksOf 2 (some .int) 5 1 := ⟨(mA2 (i := 69) rfl rfl), (mA2 (i := 70) rfl rfl), (mA1 (i := 1) rfl rfl), (mA2 (i := 71) rfl rfl), by decide +kernel, ⟨_, rfl, rfl⟩, by decide⟩
def f_X5_ticksOf (σ : Sg) (k : Nat) (x : Int32) : Int32 :=
  if x_X5_snailNumbered σ k x = 0 then
    σ (f_X5_snailNumbered σ k x) 11
  else
    0
def x_X5_ticksOf (σ : Sg) (k : Nat) (x : Int32) : Nat :=
  if x_X5_snailNumbered σ k x = 0 then
    0
  else
    x_X5_snailNumbered σ k x
set_option maxHeartbeats 4000000 in
set_option maxRecDepth 100000 in
theorem k_X5_ticksOf (l : Launch) (hfl : l.stackTraces = false) (D : va_G) (cy : Nat → ClassId) (z : Nat) (o : Int64) (d : UInt64) (σ τ : Sg) {k : Nat} (hk : kd k = 5) (x : Int32) : KT l yX5_ticksOf cX5_ticksOf 2 (some .int) 7 103 D cy z [.ref (z + k), .int x] o d σ τ (x_X5_ticksOf σ k x) (PoTI D cy z o d (x_X5_ticksOf σ k x) (f_X5_ticksOf σ k x) σ τ) σ τ := by
  refine metT_of RX5 (by decide) rfl (Nat.le_of_ble_eq_true rfl) ?_
  intro p e s m args below meth c C hno hP hS ls hl
  obtain ⟨hx, hb, hr, hml, hown, hW, hlocks, hAm⟩ := id C
  have hl : lv_has ls 2 [(0, .ref (z + k)), (1, .int x)] := hl
  refine lv_aload_n hx hb dX5_ticksOf_0 rfl (lv_at hl 0 rfl) ?_
  refine lv_iload_n hx hb dX5_ticksOf_1 rfl (lv_at hl 1 rfl) ?_
  by_cases c_2 : x_X5_snailNumbered σ k x = 0
  · refine okT_R c_2 (runT_V (As := [.int x]) (rest := []) C (k_X5_snailNumbered l hfl D cy z o d σ τ hk x) hP hS cw_X5_snailNumbered (mA1 (i := 198) rfl rfl) hk ⟨Nat.le_of_ble_eq_true rfl, Nat.le_of_ble_eq_true rfl⟩ rfl (Nat.le_of_ble_eq_true rfl) hl.1 (tcc_0 c_2 ⟨Nat.zero_le _, Nat.zero_le _⟩) dX5_ticksOf_2) hS (fun H locs hP hS => ?_)
    refine gf_X5_209 C hP (kr_X5_snailNumbered σ hk x) dX5_ticksOf_5 ?_
    exact retT_I C hP hS (nar_i _) rfl (by unfold x_X5_ticksOf; rw [if_pos c_2]) (by unfold f_X5_ticksOf; rw [if_pos c_2]) rfl rfl dX5_ticksOf_8
  · exact outT (runT_V (As := [.int x]) (rest := []) C (k_X5_snailNumbered l hfl D cy z o d σ τ hk x) hP hS cw_X5_snailNumbered (mA1 (i := 198) rfl rfl) hk ⟨Nat.le_of_ble_eq_true rfl, Nat.le_of_ble_eq_true rfl⟩ rfl (Nat.le_of_ble_eq_true rfl) hl.1 (tcc_e (by unfold x_X5_ticksOf; rw [if_neg c_2])) dX5_ticksOf_2) z_R c_2 (by unfold x_X5_ticksOf; rw [if_neg c_2]) hno hlocks hS rfl rfl

theorem cw_X5_stepTo : cwVt yX5_stepTo cX5_stepTo 4 (some .int) 5 2 := ⟨(mA1 (i := 195) rfl rfl), (mA1 (i := 196) rfl rfl), (mA1 (i := 1) rfl rfl), (mA1 (i := 197) rfl rfl), by decide +kernel, ⟨_, rfl, rfl⟩, by decide⟩
def f_X5_stepTo (σ : Sg) (k : Nat) (x : Int32) (y : Int32) : Int32 :=
  if x_X5_snailNumbered σ k x = 0 then
    if x_X5_demandState y = 0 then
      f_X4_stepUnder σ (f_X5_snailNumbered σ k x) (σ (k + 1) 4) y
    else
      0
  else
    0
def x_X5_stepTo (σ : Sg) (k : Nat) (x : Int32) (y : Int32) : Nat :=
  if x_X5_snailNumbered σ k x = 0 then
    if x_X5_demandState y = 0 then
      0
    else
      x_X5_demandState y
  else
    x_X5_snailNumbered σ k x
set_option maxHeartbeats 4000000 in
set_option maxRecDepth 100000 in
theorem k_X5_stepTo (l : Launch) (hfl : l.stackTraces = false) (D : va_G) (cy : Nat → ClassId) (z : Nat) (o : Int64) (d : UInt64) (σ τ : Sg) {k : Nat} (hk : kd k = 5) (x : Int32) (y : Int32) : KT l yX5_stepTo cX5_stepTo 4 (some .int) 7 103 D cy z [.ref (z + k), .int x, .int y] o d σ τ (x_X5_stepTo σ k x y) (PoTI D cy z o d (x_X5_stepTo σ k x y) (f_X5_stepTo σ k x y) σ τ) σ τ := by
  refine metT_of RX5 (by decide) rfl (Nat.le_of_ble_eq_true rfl) ?_
  intro p e s m args below meth c C hno hP hS ls hl
  obtain ⟨hx, hb, hr, hml, hown, hW, hlocks, hAm⟩ := id C
  have hl : lv_has ls 4 [(0, .ref (z + k)), (1, .int x), (2, .int y)] := hl
  refine lv_aload_n hx hb dX5_stepTo_0 rfl (lv_at hl 0 rfl) ?_
  refine lv_iload_n hx hb dX5_stepTo_1 rfl (lv_at hl 1 rfl) ?_
  by_cases c_2 : x_X5_snailNumbered σ k x = 0
  · refine okT_R c_2 (runT_V (As := [.int x]) (rest := []) C (k_X5_snailNumbered l hfl D cy z o d σ τ hk x) hP hS cw_X5_snailNumbered (mA1 (i := 198) rfl rfl) hk ⟨Nat.le_of_ble_eq_true rfl, Nat.le_of_ble_eq_true rfl⟩ rfl (Nat.le_of_ble_eq_true rfl) hl.1 (tcc_0 c_2 ⟨Nat.zero_le _, Nat.zero_le _⟩) dX5_stepTo_2) hS (fun H locs hP hS => ?_)
    refine lv_astore_n (lv' := [(3, .ref (z + (f_X5_snailNumbered σ k x))), (0, .ref (z + k)), (1, .int x), (2, .int y)]) hx hb dX5_stepTo_5 rfl hl (by decide) rfl (fun ls hl => ?_)
    refine lv_iload_n hx hb dX5_stepTo_6 rfl (lv_at hl 3 rfl) ?_
    by_cases c_7 : x_X5_demandState y = 0
    · refine okT_V c_7 (runT_S (As := [.int y]) (rest := []) C (k_X5_demandState l hfl D cy z o d σ τ y) hP hS cw_X5_demandState (mA2 (i := 34) rfl rfl) ⟨Nat.le_of_ble_eq_true rfl, Nat.le_of_ble_eq_true rfl⟩ rfl (Nat.le_of_ble_eq_true rfl) hl.1 (tcc_0 c_7 ⟨Nat.zero_le _, Nat.zero_le _⟩) dX5_stepTo_7) hS (fun H locs hP hS => ?_)
      refine lv_aload_n hx hb dX5_stepTo_10 rfl (lv_at hl 0 rfl) ?_
      refine lv_aload_n hx hb dX5_stepTo_11 rfl (lv_at hl 1 rfl) ?_
      refine gf_X5_10 C hP hk dX5_stepTo_12 ?_
      refine gf_X5_51 C hP (kd5_1 hk) dX5_stepTo_15 ?_
      refine lv_iload_n hx hb dX5_stepTo_18 rfl (lv_at hl 3 rfl) ?_
      refine thn_I (run_V (As := [.int (σ (k + 1) 4), .int y]) (rest := []) C (k_X4_stepUnder l D cy z o d σ τ (kr_X5_snailNumbered σ hk x) (σ (k + 1) 4) y) hP hS cw_X4_stepUnder (mA2 (i := 53) rfl rfl) (kr_X5_snailNumbered σ hk x) ⟨rfl, rfl⟩ ⟨Nat.le_of_ble_eq_true rfl, Nat.le_of_ble_eq_true rfl⟩ rfl (Nat.le_of_ble_eq_true rfl) hl.1 ⟨Nat.zero_le _, Nat.zero_le _⟩ dX5_stepTo_19) hS (fun H locs hP hS => ?_)
      exact retT_I C hP hS (nar_i _) rfl (by unfold x_X5_stepTo; rw [if_pos c_2, if_pos c_7]) (by unfold f_X5_stepTo; rw [if_pos c_2, if_pos c_7]) rfl rfl dX5_stepTo_22
    · exact outT (runT_S (As := [.int y]) (rest := []) C (k_X5_demandState l hfl D cy z o d σ τ y) hP hS cw_X5_demandState (mA2 (i := 34) rfl rfl) ⟨Nat.le_of_ble_eq_true rfl, Nat.le_of_ble_eq_true rfl⟩ rfl (Nat.le_of_ble_eq_true rfl) hl.1 (tcc_e (by unfold x_X5_stepTo; rw [if_pos c_2, if_neg c_7])) dX5_stepTo_7) z_V c_7 (by unfold x_X5_stepTo; rw [if_pos c_2, if_neg c_7]) hno hlocks hS rfl rfl
  · exact outT (runT_V (As := [.int x]) (rest := []) C (k_X5_snailNumbered l hfl D cy z o d σ τ hk x) hP hS cw_X5_snailNumbered (mA1 (i := 198) rfl rfl) hk ⟨Nat.le_of_ble_eq_true rfl, Nat.le_of_ble_eq_true rfl⟩ rfl (Nat.le_of_ble_eq_true rfl) hl.1 (tcc_e (by unfold x_X5_stepTo; rw [if_neg c_2])) dX5_stepTo_2) z_R c_2 (by unfold x_X5_stepTo; rw [if_neg c_2]) hno hlocks hS rfl rfl

theorem cw_X5_loggedStep : cwVt yX5_loggedStep cX5_loggedStep 4 (some .int) 5 2 := ⟨(mA2 (i := 173) rfl rfl), (mA2 (i := 174) rfl rfl), (mA1 (i := 1) rfl rfl), (mA2 (i := 175) rfl rfl), by decide +kernel, ⟨_, rfl, rfl⟩, by decide⟩
def f_X5_loggedStep (σ : Sg) (k : Nat) (x : Int32) (y : Int32) : Int32 :=
  if x_X5_snailNumbered σ k x = 0 then
    if y < 0 then
      0
    else
      if y < (σ (f_X5_snailNumbered σ k x + 1) 2) then
        f_X1_step σ (f_X5_snailNumbered σ k x + 1) y
      else
        0
  else
    0
def x_X5_loggedStep (σ : Sg) (k : Nat) (x : Int32) (y : Int32) : Nat :=
  if x_X5_snailNumbered σ k x = 0 then
    if y < 0 then
      1
    else
      if y < (σ (f_X5_snailNumbered σ k x + 1) 2) then
        0
      else
        1
  else
    x_X5_snailNumbered σ k x
set_option maxHeartbeats 4000000 in
set_option maxRecDepth 100000 in
theorem k_X5_loggedStep (l : Launch) (hfl : l.stackTraces = false) (D : va_G) (cy : Nat → ClassId) (z : Nat) (o : Int64) (d : UInt64) (σ τ : Sg) {k : Nat} (hk : kd k = 5) (x : Int32) (y : Int32) : KT l yX5_loggedStep cX5_loggedStep 4 (some .int) 7 103 D cy z [.ref (z + k), .int x, .int y] o d σ τ (x_X5_loggedStep σ k x y) (PoTI D cy z o d (x_X5_loggedStep σ k x y) (f_X5_loggedStep σ k x y) σ τ) σ τ := by
  refine metT_of RX5 (by decide) rfl (Nat.le_of_ble_eq_true rfl) ?_
  intro p e s m args below meth c C hno hP hS ls hl
  obtain ⟨hx, hb, hr, hml, hown, hW, hlocks, hAm⟩ := id C
  have hl : lv_has ls 4 [(0, .ref (z + k)), (1, .int x), (2, .int y)] := hl
  refine lv_aload_n hx hb dX5_loggedStep_0 rfl (lv_at hl 0 rfl) ?_
  refine lv_iload_n hx hb dX5_loggedStep_1 rfl (lv_at hl 1 rfl) ?_
  by_cases c_2 : x_X5_snailNumbered σ k x = 0
  · refine okT_R c_2 (runT_V (As := [.int x]) (rest := []) C (k_X5_snailNumbered l hfl D cy z o d σ τ hk x) hP hS cw_X5_snailNumbered (mA1 (i := 198) rfl rfl) hk ⟨Nat.le_of_ble_eq_true rfl, Nat.le_of_ble_eq_true rfl⟩ rfl (Nat.le_of_ble_eq_true rfl) hl.1 (tcc_0 c_2 ⟨Nat.zero_le _, Nat.zero_le _⟩) dX5_loggedStep_2) hS (fun H locs hP hS => ?_)
    refine lv_astore_n (lv' := [(3, .ref (z + (f_X5_snailNumbered σ k x))), (0, .ref (z + k)), (1, .int x), (2, .int y)]) hx hb dX5_loggedStep_5 rfl hl (by decide) rfl (fun ls hl => ?_)
    refine lv_iload_n hx hb dX5_loggedStep_6 rfl (lv_at hl 3 rfl) ?_
    refine lv_if_lt (tgt := 21) hx hb dX5_loggedStep_7 (by decide) (fun c_7 => ?_) (fun c_7 => ?_)
    · exact thr_X5 C hno hfl hP hS (ik := 188) (is := 190) (ic := 192) (T := 1) (text := "no such log entry") (by unfold x_X5_loggedStep; rw [if_pos c_2, if_pos c_7]) (by decide) (by decide) vxi_1.1 vxi_1.2.1 vxi_1.2.2 (vxw vxa_x1) vxb_x1 vxc_x1 hl.1 dX5_loggedStep_21 dX5_loggedStep_24 dX5_loggedStep_25 dX5_loggedStep_27 dX5_loggedStep_30 (by decide) (by decide) rfl rfl
    · refine lv_iload_n hx hb dX5_loggedStep_10 rfl (lv_at hl 3 rfl) ?_
      refine lv_aload_n hx hb dX5_loggedStep_11 rfl (lv_at hl 0 rfl) ?_
      refine gf_X5_181 C hP (kr_X5_snailNumbered σ hk x) dX5_loggedStep_12 ?_
      refine gf_X5_185 C hP (kd4_1 (kr_X5_snailNumbered σ hk x)) dX5_loggedStep_15 ?_
      refine lv_icmp_lt (tgt := 31) hx hb dX5_loggedStep_18 (by decide) (fun c_18 => ?_) (fun c_18 => ?_)
      · refine lv_aload_n hx hb dX5_loggedStep_31 rfl (lv_at hl 0 rfl) ?_
        refine gf_X5_181 C hP (kr_X5_snailNumbered σ hk x) dX5_loggedStep_32 ?_
        refine lv_iload_n hx hb dX5_loggedStep_35 rfl (lv_at hl 3 rfl) ?_
        refine thn_I (run_V (As := [.int y]) (rest := []) C (k_X1_step l D cy z o d σ τ (kd4_1 (kr_X5_snailNumbered σ hk x)) y) hP hS cw_X1_step (mA2 (i := 177) rfl rfl) (kd4_1 (kr_X5_snailNumbered σ hk x)) ⟨rfl, rfl⟩ ⟨Nat.le_of_ble_eq_true rfl, Nat.le_of_ble_eq_true rfl⟩ rfl (Nat.le_of_ble_eq_true rfl) hl.1 ⟨Nat.zero_le _, Nat.zero_le _⟩ dX5_loggedStep_36) hS (fun H locs hP hS => ?_)
        exact retT_I C hP hS (nar_i _) rfl (by unfold x_X5_loggedStep; rw [if_pos c_2, if_neg c_7, if_pos c_18]) (by unfold f_X5_loggedStep; rw [if_pos c_2, if_neg c_7, if_pos c_18]) rfl rfl dX5_loggedStep_39
      · exact thr_X5 C hno hfl hP hS (ik := 188) (is := 190) (ic := 192) (T := 1) (text := "no such log entry") (by unfold x_X5_loggedStep; rw [if_pos c_2, if_neg c_7, if_neg c_18]) (by decide) (by decide) vxi_1.1 vxi_1.2.1 vxi_1.2.2 (vxw vxa_x1) vxb_x1 vxc_x1 hl.1 dX5_loggedStep_21 dX5_loggedStep_24 dX5_loggedStep_25 dX5_loggedStep_27 dX5_loggedStep_30 (by decide) (by decide) rfl rfl
  · exact outT (runT_V (As := [.int x]) (rest := []) C (k_X5_snailNumbered l hfl D cy z o d σ τ hk x) hP hS cw_X5_snailNumbered (mA1 (i := 198) rfl rfl) hk ⟨Nat.le_of_ble_eq_true rfl, Nat.le_of_ble_eq_true rfl⟩ rfl (Nat.le_of_ble_eq_true rfl) hl.1 (tcc_e (by unfold x_X5_loggedStep; rw [if_neg c_2])) dX5_loggedStep_2) z_R c_2 (by unfold x_X5_loggedStep; rw [if_neg c_2]) hno hlocks hS rfl rfl
end
section
/-- doubles: what is no NaN -/
theorem nn_of {a : UInt64} (h : Jvm.FP.Core.dIsNaN a = false) : vf_n64 a := by
  unfold vf_n64
  rw [UInt64.le_iff_toNat_le, Jvm.FP.Core.mask_toNat]
  have h1 := mt (Jvm.FP.Core.isNaN_bits a).mpr (by rw [h]; decide)
  show _ ≤ 9218868437227405312
  omega
theorem fin_1000 : Jvm.FP.Core.DFin 4652007308841189376 := by
  rw [Jvm.FP.Core.fin_bits]
  decide
theorem nn_mul (x : Int32) : vf_n64 (FP.dmul 4652007308841189376 (FP.i2d x)) := nn_of (Jvm.FP.Core.dmul_out fin_1000 (Jvm.FP.Core.i2d_fin x))
theorem nz_i2d {y : Int32} (hy : ¬ y = 0) : ¬ Jvm.FP.Core.DZero (FP.i2d y) := by
  rw [Jvm.FP.Core.zero_bits2]
  exact Jvm.FP.Core.i2d_ne_zero hy
theorem nn_div1 {x y : Int32} (hy : ¬ y = 0) : vf_n64 (FP.ddiv (FP.dmul 4652007308841189376 (FP.i2d x)) (FP.i2d y)) :=
  nn_of (Jvm.FP.Core.ddiv_out (Jvm.FP.Core.dmul_out fin_1000 (Jvm.FP.Core.i2d_fin x)) (Jvm.FP.Core.i2d_fin y) (nz_i2d hy))
theorem lt1_ne {y : Int32} (h : 1 ≤ y) : ¬ y = 0 := fun e => by rw [e] at h; exact absurd h (by decide)
def PoD (D : va_G) (cy : Nat → ClassId) (z : Nat) (o : Int64) (d : UInt64) (r : UInt64) (σ τ : Sg) : Array Value → State → Outcome → State → Prop := va_Qd (fun (x : UInt64) (_ : Unit) => x = r) (fun _ U => WP D cy z σ τ o d U.heap) (fun q => z ≤ q)
def KD (l : Launch) (y : MethodName) (bc : ByteArray) (nl : Nat) (rt : Option FieldType) (rm : Room) (D : va_G) (cy : Nat → ClassId) (z : Nat) (As : List Value) (o : Int64) (d : UInt64) (σ τ : Sg) (r : UInt64) (σ' τ' : Sg) : Prop :=
  Met l y (.code y bc nl rt :: WA) rm (Pre D cy z As σ τ o d) (PoD D cy z o d r σ' τ') 0 0 (fz z)
section
variable {p : Program} {l : Launch} {e : Env} {s : State} {m : MethodId} {args : Array Value} {below : List Frame} {meth : Method} {c : Code} {cc : ByteArray} {nl : Nat} {rt : Option FieldType} {own : String} {D : va_G} {cy : Nat → ClassId} {z : Nat} {Rm : Room} {H : Heap} {locs : List Loc} {cells slots : Nat} {pc : Nat} {ls : Array Slot} {rest : List Value} {o : Int64} {d : UInt64} {σ' τ' : Sg} {Q : State → Prop}
theorem ret_D (C : Bd p s m args meth c cc nl (some .double) own D cy z) {r v : UInt64} {σe τe : Sg} (hP : WP D cy z σe τe o d H) (hS : va_S (fz z) s.heap H locs) (hv : v = r) (hσ : σe = σ') (hτ : τe = τ') (hdg : decode cc pc = .ok (.dreturn, 1)) :
    W p l e Rm s m args below meth c H locs cells slots (MQ below (PoD D cy z o d r σ' τ') args s cells slots (fz z)) (F0 m pc ls [.double v]) := by
  obtain ⟨hx, hb, hr, hml, hown, hW, hlocks, hAm⟩ := C
  subst hσ
  subst hτ
  exact W.dret hx hb hr (fun t ht hW => ⟨⟨v, (), rfl, hv, by show WP D cy z σe τe o d t.heap; rw [ht]; exact hP⟩, hS.F ht⟩) hS.2.2 hdg hlocks
theorem thn_D {st0 : List Value} {a : Array Value} {r : UInt64} (hr : va_Run p l e Rm s m args below meth c H locs cells slots 0 0 (F0 m pc ls st0) rest (PoD D cy z o d r σ' τ' a) (fz z)) (hS : va_S (fz z) s.heap H locs)
    (kk : ∀ (H1 : Heap) (locs1 : List Loc), WP D cy z σ' τ' o d H1 → va_S (fz z) s.heap H1 locs1 → W p l e Rm s m args below meth c H1 locs1 cells slots Q (F0 m (pc + 3) ls (.double r :: rest))) : W p l e Rm s m args below meth c H locs cells slots Q (F0 m pc ls st0) :=
  va_calld hr hS (fun _ _ h => h) (fun _ h => h) (fun r1 u t H1 locs1 ht hvm hpost hB hz hk1 hS1 => by
    subst hpost
    rw [ht] at hB
    exact kk H1 locs1 hB hS1)
end
theorem tk_add {x y : Int32} {i : Nat} (hx : (i : Int) ≤ x.toInt ∧ x.toInt ≤ 1000 * (i : Int)) (hi : i ≤ 16) (hy : 1 ≤ y.toInt ∧ y.toInt ≤ 1000) : ((i + 1 : Nat) : Int) ≤ (x + y).toInt ∧ (x + y).toInt ≤ 1000 * ((i + 1 : Nat) : Int) := by
  have e : (x + y).toInt = x.toInt + y.toInt := by
    rw [Int32.toInt_add]
    apply Int.bmod_eq_of_le <;> omega
  omega
end
section
theorem cw_X1_speed : cwVt yX1_speed cX1_speed 4 (some .double) 1 0 := ⟨(mA3 (i := 57) rfl rfl), (mA3 (i := 58) rfl rfl), (mA1 (i := 4) rfl rfl), (mA3 (i := 59) rfl rfl), by decide +kernel, ⟨_, rfl, rfl⟩, by decide⟩
abbrev rm_X1_speed : Room := { frames := 3, cells := 0, slots := 0, locals := 65 }
def gf_X1_speed (σ : Sg) (k L : Nat) : Nat → Int32 → Int32 → Nat → UInt64
  | 0, _, _, _ => 0
  | n + 1, x1, x2, i =>
    if L ≤ i then
      if 1 ≤ x2 then
        FP.ddiv (FP.dmul 4652007308841189376 (FP.i2d x1)) (FP.i2d x2)
      else
        FP.dconst0
    else
      gf_X1_speed σ k L n (x1 + (f_X1_step σ k (nI i))) (x2 + (f_X1_spent σ k (nI i))) (i + 1)
set_option maxHeartbeats 4000000 in
set_option maxRecDepth 100000 in
theorem lp_X1_speed {p : Program} {l : Launch} {e : Env} {s : State} {m : MethodId} {args : Array Value} {below : List Frame} {meth : Method} {c : Code} {D : va_G} {cy : Nat → ClassId} {z : Nat} (C : Bd p s m args meth c cX1_speed 4 (some .double) RX1 D cy z) (o : Int64) (d : UInt64) {k : Nat} (hk : kd k = 1) (L : Nat) {r9 : UInt64} :
    ∀ (n : Nat) (x1 : Int32) (x2 : Int32) (i : Nat) (σ τ : Sg) (H : Heap) (locs : List Loc), (σ k 2 = nI L) → (L ≤ 16 ∧ i ≤ L ∧ L + 1 ≤ i + n) → (gf_X1_speed σ k L n x1 x2 i = r9) → WP D cy z σ τ o d H → va_S (fz z) s.heap H locs → ∀ ls : Array Slot, lv_has ls 4 [(0, .ref (z + k)), (1, .int x1), (2, .int x2), (3, .int (nI i))] → W p l e rm_X1_speed s m args below meth c H locs 0 0 (MQ below (PoD D cy z o d r9 σ τ) args s 0 0 (fz z)) (F0 m 6 ls []) := by
  obtain ⟨hx, hb, hr, hml, hown, hW, hlocks, hAm⟩ := id C
  intro n
  induction n with
  | zero =>
    intro _ _ _ σ τ H locs hL hn9 _ hP hS ls hl
    exact absurd hn9 (by omega)
  | succ n ih =>
    intro x1 x2 i σ τ H locs hL hn9 hr9 hP hS ls hl
    refine lv_iload_n hx hb dX1_speed_6 rfl (lv_at hl 3 rfl) ?_
    refine lv_aload_n hx hb dX1_speed_7 rfl (lv_at hl 0 rfl) ?_
    refine gf_X1_15 C hP hk dX1_speed_8 ?_
    rw [hL]
    refine lv_icmp_ge (tgt := 36) hx hb dX1_speed_11 (by decide) (fun c_11 => ?_) (fun c_11 => ?_)
    · have d_11 : L ≤ i := (cI_le rfl rfl (by omega) (by omega)).mp c_11
      refine lv_iload_n hx hb dX1_speed_36 rfl (lv_at hl 2 rfl) ?_
      refine lv_iconst (v := 1) hx hb dX1_speed_37 (by decide) ?_
      refine lv_icmp_ge (tgt := 45) hx hb dX1_speed_38 (by decide) (fun c_38 => ?_) (fun c_38 => ?_)
      · refine lv_ldc2d (v := 4652007308841189376) hx hb hown (hW _ (mA3 (i := 62) rfl rfl)) dX1_speed_45 ?_
        refine lv_iload_n hx hb dX1_speed_48 rfl (lv_at hl 1 rfl) ?_
        refine lv_i2d hx hb dX1_speed_49 ?_
        refine lv_dmul hx hb dX1_speed_50 (nn_mul _) ?_
        refine lv_iload_n hx hb dX1_speed_51 rfl (lv_at hl 2 rfl) ?_
        refine lv_i2d hx hb dX1_speed_52 ?_
        refine lv_ddiv hx hb dX1_speed_53 (nn_div1 (lt1_ne c_38)) ?_
        exact ret_D C hP hS (by rw [← hr9, gf_X1_speed]; rw [if_pos d_11, if_pos c_38]) rfl rfl dX1_speed_54
      · refine lv_dconst0 hx hb dX1_speed_41 ?_
        refine lv_goto (tgt := 54) hx hb dX1_speed_42 (by decide) ?_
        exact ret_D C hP hS (by rw [← hr9, gf_X1_speed]; rw [if_pos d_11, if_neg c_38]) rfl rfl dX1_speed_54
    · have d_11 : ¬ (L ≤ i) := fun h9 => c_11 ((cI_le rfl rfl (by omega) (by omega)).mpr h9)
      refine lv_iload_n hx hb dX1_speed_14 rfl (lv_at hl 1 rfl) ?_
      refine lv_aload_n hx hb dX1_speed_15 rfl (lv_at hl 0 rfl) ?_
      refine lv_iload_n hx hb dX1_speed_16 rfl (lv_at hl 3 rfl) ?_
      refine thn_I (run_V (As := [.int (nI i)]) (rest := [.int x1]) C (k_X1_step l D cy z o d σ τ hk (nI i)) hP hS cw_X1_step (mA3 (i := 60) rfl rfl) hk ⟨rfl, rfl⟩ ⟨Nat.le_of_ble_eq_true rfl, Nat.le_of_ble_eq_true rfl⟩ rfl (Nat.le_of_ble_eq_true rfl) hl.1 ⟨Nat.zero_le _, Nat.zero_le _⟩ dX1_speed_17) hS (fun H locs hP hS => ?_)
      refine lv_iadd hx hb dX1_speed_20 ?_
      refine lv_istore_n (lv' := [(1, .int (x1 + (f_X1_step σ k (nI i)))), (0, .ref (z + k)), (2, .int x2), (3, .int (nI i))]) hx hb dX1_speed_21 rfl hl (by decide) rfl (fun ls hl => ?_)
      refine lv_iload_n hx hb dX1_speed_22 rfl (lv_at hl 2 rfl) ?_
      refine lv_aload_n hx hb dX1_speed_23 rfl (lv_at hl 1 rfl) ?_
      refine lv_iload_n hx hb dX1_speed_24 rfl (lv_at hl 3 rfl) ?_
      refine thn_I (run_V (As := [.int (nI i)]) (rest := [.int x2]) C (k_X1_spent l D cy z o d σ τ hk (nI i)) hP hS cw_X1_spent (mA3 (i := 61) rfl rfl) hk ⟨rfl, rfl⟩ ⟨Nat.le_of_ble_eq_true rfl, Nat.le_of_ble_eq_true rfl⟩ rfl (Nat.le_of_ble_eq_true rfl) hl.1 ⟨Nat.zero_le _, Nat.zero_le _⟩ dX1_speed_25) hS (fun H locs hP hS => ?_)
      refine lv_iadd hx hb dX1_speed_28 ?_
      refine lv_istore_n (lv' := [(2, .int (x2 + (f_X1_spent σ k (nI i)))), (1, .int (x1 + (f_X1_step σ k (nI i)))), (0, .ref (z + k)), (3, .int (nI i))]) hx hb dX1_speed_29 rfl hl (by decide) rfl (fun ls hl => ?_)
      refine lv_iinc (v := nI (i + 1)) (lv' := [(3, .int (nI (i + 1))), (2, .int (x2 + (f_X1_spent σ k (nI i)))), (1, .int (x1 + (f_X1_step σ k (nI i)))), (0, .ref (z + k))]) hx hb dX1_speed_30 hl (k := 3) rfl (nI_1 i) (by decide) rfl (fun ls hl => ?_)
      refine lv_goto (tgt := 6) hx hb dX1_speed_33 (by decide) ?_
      exact ih (x1 + (f_X1_step σ k (nI i))) (x2 + (f_X1_spent σ k (nI i))) (i + 1) σ τ _ _ hL (⟨by omega, by omega, by omega⟩) (by rw [← hr9, gf_X1_speed]; rw [if_neg d_11]) hP hS ls (lv_sub hl [3, 2, 1, 0] rfl)
def f_X1_speed (σ : Sg) (k : Nat) : UInt64 :=
  gf_X1_speed σ k (Ln σ k) 17 0 0 0
set_option maxHeartbeats 4000000 in
set_option maxRecDepth 100000 in
theorem k_X1_speed (l : Launch) (D : va_G) (cy : Nat → ClassId) (z : Nat) (o : Int64) (d : UInt64) (σ τ : Sg) {k : Nat} (hk : kd k = 1) (hG : LGA σ) : KD l yX1_speed cX1_speed 4 (some .double) rm_X1_speed D cy z [.ref (z + k)] o d σ τ (f_X1_speed σ k) σ τ := by
  refine met_of RX1 (plainFor_of_name (by decide)) rfl (Nat.le_of_ble_eq_true rfl) ?_
  intro p e s m args below meth c C hP hS ls hl
  obtain ⟨hx, hb, hr, hml, hown, hW, hlocks, hAm⟩ := id C
  have hl : lv_has ls 4 [(0, .ref (z + k))] := hl
  obtain ⟨hL, hL16⟩ := hG.of hk
  refine lv_iconst (v := 0) hx hb dX1_speed_0 (by decide) ?_
  refine lv_istore_n (lv' := [(1, .int 0), (0, .ref (z + k))]) hx hb dX1_speed_1 rfl hl (by decide) rfl (fun ls hl => ?_)
  refine lv_iconst (v := 0) hx hb dX1_speed_2 (by decide) ?_
  refine lv_istore_n (lv' := [(2, .int 0), (1, .int 0), (0, .ref (z + k))]) hx hb dX1_speed_3 rfl hl (by decide) rfl (fun ls hl => ?_)
  refine lv_iconst (v := 0) hx hb dX1_speed_4 (by decide) ?_
  refine lv_istore_n (lv' := [(3, .int 0), (2, .int 0), (1, .int 0), (0, .ref (z + k))]) hx hb dX1_speed_5 rfl hl (by decide) rfl (fun ls hl => ?_)
  exact lp_X1_speed C o d hk (Ln σ k) (17) 0 0 0 σ τ _ _ hL (⟨by omega, by omega, by omega⟩) rfl hP hS ls (lv_sub hl [3, 2, 1, 0] rfl)

theorem cw_X5_speedOf : cwVt yX5_speedOf cX5_speedOf 2 (some .double) 5 1 := ⟨(mA3 (i := 53) rfl rfl), (mA3 (i := 54) rfl rfl), (mA1 (i := 1) rfl rfl), (mA3 (i := 55) rfl rfl), by decide +kernel, ⟨_, rfl, rfl⟩, by decide⟩
def f_X5_speedOf (σ : Sg) (k : Nat) (x : Int32) : UInt64 :=
  if x_X5_snailNumbered σ k x = 0 then
    f_X1_speed σ (f_X5_snailNumbered σ k x + 1)
  else
    0
def x_X5_speedOf (σ : Sg) (k : Nat) (x : Int32) : Nat :=
  if x_X5_snailNumbered σ k x = 0 then
    0
  else
    x_X5_snailNumbered σ k x
set_option maxHeartbeats 4000000 in
set_option maxRecDepth 100000 in
theorem k_X5_speedOf (l : Launch) (hfl : l.stackTraces = false) (D : va_G) (cy : Nat → ClassId) (z : Nat) (o : Int64) (d : UInt64) (σ τ : Sg) {k : Nat} (hk : kd k = 5) (x : Int32) (hG : LGA σ) : KT l yX5_speedOf cX5_speedOf 2 (some .double) 7 103 D cy z [.ref (z + k), .int x] o d σ τ (x_X5_speedOf σ k x) (PoTD D cy z o d (x_X5_speedOf σ k x) (f_X5_speedOf σ k x) σ τ) σ τ := by
  refine metT_of RX5 (by decide) rfl (Nat.le_of_ble_eq_true rfl) ?_
  intro p e s m args below meth c C hno hP hS ls hl
  obtain ⟨hx, hb, hr, hml, hown, hW, hlocks, hAm⟩ := id C
  have hl : lv_has ls 2 [(0, .ref (z + k)), (1, .int x)] := hl
  refine lv_aload_n hx hb dX5_speedOf_0 rfl (lv_at hl 0 rfl) ?_
  refine lv_iload_n hx hb dX5_speedOf_1 rfl (lv_at hl 1 rfl) ?_
  by_cases c_2 : x_X5_snailNumbered σ k x = 0
  · refine okT_R c_2 (runT_V (As := [.int x]) (rest := []) C (k_X5_snailNumbered l hfl D cy z o d σ τ hk x) hP hS cw_X5_snailNumbered (mA1 (i := 198) rfl rfl) hk ⟨Nat.le_of_ble_eq_true rfl, Nat.le_of_ble_eq_true rfl⟩ rfl (Nat.le_of_ble_eq_true rfl) hl.1 (tcc_0 c_2 ⟨Nat.zero_le _, Nat.zero_le _⟩) dX5_speedOf_2) hS (fun H locs hP hS => ?_)
    refine gf_X5_181 C hP (kr_X5_snailNumbered σ hk x) dX5_speedOf_5 ?_
    refine thn_D (run_V (As := []) (rest := []) C (k_X1_speed l D cy z o d σ τ (kd4_1 (kr_X5_snailNumbered σ hk x)) hG) hP hS cw_X1_speed (mA3 (i := 56) rfl rfl) (kd4_1 (kr_X5_snailNumbered σ hk x)) ⟨rfl, rfl⟩ ⟨Nat.le_of_ble_eq_true rfl, Nat.le_of_ble_eq_true rfl⟩ rfl (Nat.le_of_ble_eq_true rfl) hl.1 ⟨Nat.zero_le _, Nat.zero_le _⟩ dX5_speedOf_8) hS (fun H locs hP hS => ?_)
    exact retT_D C hP hS (by unfold x_X5_speedOf; rw [if_pos c_2]) (by unfold f_X5_speedOf; rw [if_pos c_2]) rfl rfl dX5_speedOf_11
  · exact outT (runT_V (As := [.int x]) (rest := []) C (k_X5_snailNumbered l hfl D cy z o d σ τ hk x) hP hS cw_X5_snailNumbered (mA1 (i := 198) rfl rfl) hk ⟨Nat.le_of_ble_eq_true rfl, Nat.le_of_ble_eq_true rfl⟩ rfl (Nat.le_of_ble_eq_true rfl) hl.1 (tcc_e (by unfold x_X5_speedOf; rw [if_neg c_2])) dX5_speedOf_2) z_R c_2 (by unfold x_X5_speedOf; rw [if_neg c_2]) hno hlocks hS rfl rfl
end
section
theorem dL_cell_0 : decode cL_cell 0 = .ok (.iload_n 1, 1) := by decide +kernel
theorem dL_cell_1 : decode cL_cell 1 = .ok (.aload_n 0, 1) := by decide +kernel
theorem dL_cell_2 : decode cL_cell 2 = .ok (.arraylength, 1) := by decide +kernel
theorem dL_cell_3 : decode cL_cell 3 = .ok (.if_icmp .ge 9, 3) := by decide +kernel
theorem dL_cell_6 : decode cL_cell 6 = .ok (.aload_n 0, 1) := by decide +kernel
theorem dL_cell_7 : decode cL_cell 7 = .ok (.iload_n 1, 1) := by decide +kernel
theorem dL_cell_8 : decode cL_cell 8 = .ok (.iaload, 1) := by decide +kernel
theorem dL_cell_9 : decode cL_cell 9 = .ok (.goto 15, 3) := by decide +kernel
theorem dL_cell_12 : decode cL_cell 12 = .ok (.sipush 7919, 3) := by decide +kernel
theorem dL_cell_15 : decode cL_cell 15 = .ok (.iload_n 1, 1) := by decide +kernel
theorem dL_cell_16 : decode cL_cell 16 = .ok (.iconst 3, 1) := by decide +kernel
theorem dL_cell_17 : decode cL_cell 17 = .ok (.iadd, 1) := by decide +kernel
theorem dL_cell_18 : decode cL_cell 18 = .ok (.imul, 1) := by decide +kernel
theorem dL_cell_19 : decode cL_cell 19 = .ok (.iload_n 1, 1) := by decide +kernel
theorem dL_cell_20 : decode cL_cell 20 = .ok (.bipush 11, 2) := by decide +kernel
theorem dL_cell_22 : decode cL_cell 22 = .ok (.iadd, 1) := by decide +kernel
theorem dL_cell_23 : decode cL_cell 23 = .ok (.imul, 1) := by decide +kernel
theorem dL_cell_24 : decode cL_cell 24 = .ok (.ireturn, 1) := by decide +kernel
theorem dL_low_0 : decode cL_low 0 = .ok (.iload_n 0, 1) := by decide +kernel
theorem dL_low_1 : decode cL_low 1 = .ok (.ldc 7, 2) := by decide +kernel
theorem dL_low_3 : decode cL_low 3 = .ok (.iand, 1) := by decide +kernel
theorem dL_low_4 : decode cL_low 4 = .ok (.iload_n 1, 1) := by decide +kernel
theorem dL_low_5 : decode cL_low 5 = .ok (.irem, 1) := by decide +kernel
theorem dL_low_6 : decode cL_low 6 = .ok (.ireturn, 1) := by decide +kernel
theorem dL_size_0 : decode cL_size 0 = .ok (.iload_n 0, 1) := by decide +kernel
theorem dL_size_1 : decode cL_size 1 = .ok (.ifCond .ge 8, 3) := by decide +kernel
theorem dL_size_4 : decode cL_size 4 = .ok (.iload_n 0, 1) := by decide +kernel
theorem dL_size_5 : decode cL_size 5 = .ok (.ineg, 1) := by decide +kernel
theorem dL_size_6 : decode cL_size 6 = .ok (.goto 4, 3) := by decide +kernel
theorem dL_size_9 : decode cL_size 9 = .ok (.iload_n 0, 1) := by decide +kernel
theorem dL_size_10 : decode cL_size 10 = .ok (.ireturn, 1) := by decide +kernel
theorem dL_does_0 : decode cL_does 0 = .ok (.iload_n 1, 1) := by decide +kernel
theorem dL_does_1 : decode cL_does 1 = .ok (.iconst 4, 1) := by decide +kernel
theorem dL_does_2 : decode cL_does 2 = .ok (.ishr, 1) := by decide +kernel
theorem dL_does_3 : decode cL_does 3 = .ok (.iconst 3, 1) := by decide +kernel
theorem dL_does_4 : decode cL_does 4 = .ok (.invokestatic 8, 3) := by decide +kernel
theorem dL_does_7 : decode cL_does 7 = .ok (.istore_n 3, 1) := by decide +kernel
theorem dL_does_8 : decode cL_does 8 = .ok (.iload_n 1, 1) := by decide +kernel
theorem dL_does_9 : decode cL_does 9 = .ok (.bipush 15, 2) := by decide +kernel
theorem dL_does_11 : decode cL_does 11 = .ok (.iand, 1) := by decide +kernel
theorem dL_does_12 : decode cL_does 12 = .ok (.tableswitch 285 0 14 #[76, 76, 76, 76, 76, 76, 76, 97, 97, 189, 189, 195, 195, 203, 237], 76) := by decide +kernel
theorem dL_does_88 : decode cL_does 88 = .ok (.aload_n 0, 1) := by decide +kernel
theorem dL_does_89 : decode cL_does 89 = .ok (.iload_n 3, 1) := by decide +kernel
theorem dL_does_90 : decode cL_does 90 = .ok (.iload_n 2, 1) := by decide +kernel
theorem dL_does_91 : decode cL_does 91 = .ok (.iconst 4, 1) := by decide +kernel
theorem dL_does_92 : decode cL_does 92 = .ok (.invokestatic 8, 3) := by decide +kernel
theorem dL_does_95 : decode cL_does 95 = .ok (.iconst 1, 1) := by decide +kernel
theorem dL_does_96 : decode cL_does 96 = .ok (.iload_n 2, 1) := by decide +kernel
theorem dL_does_97 : decode cL_does 97 = .ok (.iconst 2, 1) := by decide +kernel
theorem dL_does_98 : decode cL_does 98 = .ok (.ishr, 1) := by decide +kernel
theorem dL_does_99 : decode cL_does 99 = .ok (.bipush 50, 2) := by decide +kernel
theorem dL_does_101 : decode cL_does 101 = .ok (.invokestatic 8, 3) := by decide +kernel
theorem dL_does_104 : decode cL_does 104 = .ok (.iadd, 1) := by decide +kernel
theorem dL_does_105 : decode cL_does 105 = .ok (.invokestatic 14, 3) := by decide +kernel
theorem dL_does_108 : decode cL_does 108 = .ok (.ireturn, 1) := by decide +kernel
theorem dL_does_109 : decode cL_does 109 = .ok (.aload_n 0, 1) := by decide +kernel
theorem dL_does_110 : decode cL_does 110 = .ok (.iload_n 3, 1) := by decide +kernel
theorem dL_does_111 : decode cL_does 111 = .ok (.invokevirtual 18, 3) := by decide +kernel
theorem dL_does_114 : decode cL_does 114 = .ok (.istore 4, 2) := by decide +kernel
theorem dL_does_116 : decode cL_does 116 = .ok (.iload_n 2, 1) := by decide +kernel
theorem dL_does_117 : decode cL_does 117 = .ok (.bipush 81, 2) := by decide +kernel
theorem dL_does_119 : decode cL_does 119 = .ok (.invokestatic 8, 3) := by decide +kernel
theorem dL_does_122 : decode cL_does 122 = .ok (.bipush 40, 2) := by decide +kernel
theorem dL_does_124 : decode cL_does 124 = .ok (.isub, 1) := by decide +kernel
theorem dL_does_125 : decode cL_does 125 = .ok (.istore 5, 2) := by decide +kernel
theorem dL_does_127 : decode cL_does 127 = .ok (.aload_n 0, 1) := by decide +kernel
theorem dL_does_128 : decode cL_does 128 = .ok (.iload_n 3, 1) := by decide +kernel
theorem dL_does_129 : decode cL_does 129 = .ok (.invokevirtual 24, 3) := by decide +kernel
theorem dL_does_132 : decode cL_does 132 = .ok (.istore 6, 2) := by decide +kernel
theorem dL_does_134 : decode cL_does 134 = .ok (.aload_n 0, 1) := by decide +kernel
theorem dL_does_135 : decode cL_does 135 = .ok (.iload_n 3, 1) := by decide +kernel
theorem dL_does_136 : decode cL_does 136 = .ok (.invokevirtual 27, 3) := by decide +kernel
theorem dL_does_139 : decode cL_does 139 = .ok (.istore 7, 2) := by decide +kernel
theorem dL_does_141 : decode cL_does 141 = .ok (.aload_n 0, 1) := by decide +kernel
theorem dL_does_142 : decode cL_does 142 = .ok (.iload_n 3, 1) := by decide +kernel
theorem dL_does_143 : decode cL_does 143 = .ok (.iload 5, 2) := by decide +kernel
theorem dL_does_145 : decode cL_does 145 = .ok (.invokevirtual 30, 3) := by decide +kernel
theorem dL_does_148 : decode cL_does 148 = .ok (.iload 4, 2) := by decide +kernel
theorem dL_does_150 : decode cL_does 150 = .ok (.iload 5, 2) := by decide +kernel
theorem dL_does_152 : decode cL_does 152 = .ok (.iadd, 1) := by decide +kernel
theorem dL_does_153 : decode cL_does 153 = .ok (.if_icmp .ne 46, 3) := by decide +kernel
theorem dL_does_156 : decode cL_does 156 = .ok (.aload_n 0, 1) := by decide +kernel
theorem dL_does_157 : decode cL_does 157 = .ok (.iload_n 3, 1) := by decide +kernel
theorem dL_does_158 : decode cL_does 158 = .ok (.invokevirtual 18, 3) := by decide +kernel
theorem dL_does_161 : decode cL_does 161 = .ok (.iload 4, 2) := by decide +kernel
theorem dL_does_163 : decode cL_does 163 = .ok (.iload 5, 2) := by decide +kernel
theorem dL_does_165 : decode cL_does 165 = .ok (.iadd, 1) := by decide +kernel
theorem dL_does_166 : decode cL_does 166 = .ok (.if_icmp .ne 33, 3) := by decide +kernel
theorem dL_does_169 : decode cL_does 169 = .ok (.aload_n 0, 1) := by decide +kernel
theorem dL_does_170 : decode cL_does 170 = .ok (.iload_n 3, 1) := by decide +kernel
theorem dL_does_171 : decode cL_does 171 = .ok (.invokevirtual 24, 3) := by decide +kernel
theorem dL_does_174 : decode cL_does 174 = .ok (.iload 6, 2) := by decide +kernel
theorem dL_does_176 : decode cL_does 176 = .ok (.if_icmp .ne 23, 3) := by decide +kernel
theorem dL_does_179 : decode cL_does 179 = .ok (.aload_n 0, 1) := by decide +kernel
theorem dL_does_180 : decode cL_does 180 = .ok (.iload_n 3, 1) := by decide +kernel
theorem dL_does_181 : decode cL_does 181 = .ok (.invokevirtual 27, 3) := by decide +kernel
theorem dL_does_184 : decode cL_does 184 = .ok (.iload 7, 2) := by decide +kernel
theorem dL_does_186 : decode cL_does 186 = .ok (.iload 5, 2) := by decide +kernel
theorem dL_does_188 : decode cL_does 188 = .ok (.invokestatic 33, 3) := by decide +kernel
theorem dL_does_191 : decode cL_does 191 = .ok (.iadd, 1) := by decide +kernel
theorem dL_does_192 : decode cL_does 192 = .ok (.if_icmp .ne 7, 3) := by decide +kernel
theorem dL_does_195 : decode cL_does 195 = .ok (.iconst 1, 1) := by decide +kernel
theorem dL_does_196 : decode cL_does 196 = .ok (.goto 4, 3) := by decide +kernel
theorem dL_does_199 : decode cL_does 199 = .ok (.iconst 0, 1) := by decide +kernel
theorem dL_does_200 : decode cL_does 200 = .ok (.ireturn, 1) := by decide +kernel
theorem dL_does_201 : decode cL_does 201 = .ok (.aload_n 0, 1) := by decide +kernel
theorem dL_does_202 : decode cL_does 202 = .ok (.iload_n 3, 1) := by decide +kernel
theorem dL_does_203 : decode cL_does 203 = .ok (.invokestatic 36, 3) := by decide +kernel
theorem dL_does_206 : decode cL_does 206 = .ok (.ireturn, 1) := by decide +kernel
theorem dL_does_207 : decode cL_does 207 = .ok (.aload_n 0, 1) := by decide +kernel
theorem dL_does_208 : decode cL_does 208 = .ok (.iload_n 3, 1) := by decide +kernel
theorem dL_does_209 : decode cL_does 209 = .ok (.iload_n 1, 1) := by decide +kernel
theorem dL_does_210 : decode cL_does 210 = .ok (.iload_n 2, 1) := by decide +kernel
theorem dL_does_211 : decode cL_does 211 = .ok (.invokestatic 40, 3) := by decide +kernel
theorem dL_does_214 : decode cL_does 214 = .ok (.ireturn, 1) := by decide +kernel
theorem dL_does_215 : decode cL_does 215 = .ok (.aload_n 0, 1) := by decide +kernel
theorem dL_does_216 : decode cL_does 216 = .ok (.invokevirtual 43, 3) := by decide +kernel
theorem dL_does_219 : decode cL_does 219 = .ok (.istore 8, 2) := by decide +kernel
theorem dL_does_221 : decode cL_does 221 = .ok (.aload_n 0, 1) := by decide +kernel
theorem dL_does_222 : decode cL_does 222 = .ok (.iload_n 2, 1) := by decide +kernel
theorem dL_does_223 : decode cL_does 223 = .ok (.iconst 1, 1) := by decide +kernel
theorem dL_does_224 : decode cL_does 224 = .ok (.iand, 1) := by decide +kernel
theorem dL_does_225 : decode cL_does 225 = .ok (.invokevirtual 47, 3) := by decide +kernel
theorem dL_does_228 : decode cL_does 228 = .ok (.iload 8, 2) := by decide +kernel
theorem dL_does_230 : decode cL_does 230 = .ok (.if_icmp .ne 17, 3) := by decide +kernel
theorem dL_does_233 : decode cL_does 233 = .ok (.aload_n 0, 1) := by decide +kernel
theorem dL_does_234 : decode cL_does 234 = .ok (.invokevirtual 43, 3) := by decide +kernel
theorem dL_does_237 : decode cL_does 237 = .ok (.iload_n 2, 1) := by decide +kernel
theorem dL_does_238 : decode cL_does 238 = .ok (.iconst 1, 1) := by decide +kernel
theorem dL_does_239 : decode cL_does 239 = .ok (.iand, 1) := by decide +kernel
theorem dL_does_240 : decode cL_does 240 = .ok (.if_icmp .ne 7, 3) := by decide +kernel
theorem dL_does_243 : decode cL_does 243 = .ok (.iconst 1, 1) := by decide +kernel
theorem dL_does_244 : decode cL_does 244 = .ok (.goto 4, 3) := by decide +kernel
theorem dL_does_247 : decode cL_does 247 = .ok (.iconst 0, 1) := by decide +kernel
theorem dL_does_248 : decode cL_does 248 = .ok (.ireturn, 1) := by decide +kernel
theorem dL_does_249 : decode cL_does 249 = .ok (.aload_n 0, 1) := by decide +kernel
theorem dL_does_250 : decode cL_does 250 = .ok (.invokevirtual 50, 3) := by decide +kernel
theorem dL_does_253 : decode cL_does 253 = .ok (.istore 9, 2) := by decide +kernel
theorem dL_does_255 : decode cL_does 255 = .ok (.aload_n 0, 1) := by decide +kernel
theorem dL_does_256 : decode cL_does 256 = .ok (.iconst 4, 1) := by decide +kernel
theorem dL_does_257 : decode cL_does 257 = .ok (.iconst 4, 1) := by decide +kernel
theorem dL_does_258 : decode cL_does 258 = .ok (.iload_n 2, 1) := by decide +kernel
theorem dL_does_259 : decode cL_does 259 = .ok (.bipush 20, 2) := by decide +kernel
theorem dL_does_261 : decode cL_does 261 = .ok (.invokestatic 8, 3) := by decide +kernel
theorem dL_does_264 : decode cL_does 264 = .ok (.imul, 1) := by decide +kernel
theorem dL_does_265 : decode cL_does 265 = .ok (.iadd, 1) := by decide +kernel
theorem dL_does_266 : decode cL_does 266 = .ok (.invokevirtual 53, 3) := by decide +kernel
theorem dL_does_269 : decode cL_does 269 = .ok (.iload 9, 2) := by decide +kernel
theorem dL_does_271 : decode cL_does 271 = .ok (.if_icmp .ne 24, 3) := by decide +kernel
theorem dL_does_274 : decode cL_does 274 = .ok (.aload_n 0, 1) := by decide +kernel
theorem dL_does_275 : decode cL_does 275 = .ok (.invokevirtual 50, 3) := by decide +kernel
theorem dL_does_278 : decode cL_does 278 = .ok (.iconst 4, 1) := by decide +kernel
theorem dL_does_279 : decode cL_does 279 = .ok (.iconst 4, 1) := by decide +kernel
theorem dL_does_280 : decode cL_does 280 = .ok (.iload_n 2, 1) := by decide +kernel
theorem dL_does_281 : decode cL_does 281 = .ok (.bipush 20, 2) := by decide +kernel
theorem dL_does_283 : decode cL_does 283 = .ok (.invokestatic 8, 3) := by decide +kernel
theorem dL_does_286 : decode cL_does 286 = .ok (.imul, 1) := by decide +kernel
theorem dL_does_287 : decode cL_does 287 = .ok (.iadd, 1) := by decide +kernel
theorem dL_does_288 : decode cL_does 288 = .ok (.if_icmp .ne 7, 3) := by decide +kernel
theorem dL_does_291 : decode cL_does 291 = .ok (.iconst 1, 1) := by decide +kernel
theorem dL_does_292 : decode cL_does 292 = .ok (.goto 4, 3) := by decide +kernel
theorem dL_does_295 : decode cL_does 295 = .ok (.iconst 0, 1) := by decide +kernel
theorem dL_does_296 : decode cL_does 296 = .ok (.ireturn, 1) := by decide +kernel
theorem dL_does_297 : decode cL_does 297 = .ok (.aload_n 0, 1) := by decide +kernel
theorem dL_does_298 : decode cL_does 298 = .ok (.iload_n 3, 1) := by decide +kernel
theorem dL_does_299 : decode cL_does 299 = .ok (.invokevirtual 56, 3) := by decide +kernel
theorem dL_does_302 : decode cL_does 302 = .ok (.istore 10, 2) := by decide +kernel
theorem dL_does_304 : decode cL_does 304 = .ok (.iload 10, 2) := by decide +kernel
theorem dL_does_306 : decode cL_does 306 = .ok (.ifCond .eq 19, 3) := by decide +kernel
theorem dL_does_309 : decode cL_does 309 = .ok (.aload_n 0, 1) := by decide +kernel
theorem dL_does_310 : decode cL_does 310 = .ok (.iload_n 3, 1) := by decide +kernel
theorem dL_does_311 : decode cL_does 311 = .ok (.iconst 1, 1) := by decide +kernel
theorem dL_does_312 : decode cL_does 312 = .ok (.iload_n 2, 1) := by decide +kernel
theorem dL_does_313 : decode cL_does 313 = .ok (.iload 10, 2) := by decide +kernel
theorem dL_does_315 : decode cL_does 315 = .ok (.invokestatic 8, 3) := by decide +kernel
theorem dL_does_318 : decode cL_does 318 = .ok (.iadd, 1) := by decide +kernel
theorem dL_does_319 : decode cL_does 319 = .ok (.invokestatic 59, 3) := by decide +kernel
theorem dL_does_322 : decode cL_does 322 = .ok (.ifCond .eq 7, 3) := by decide +kernel
theorem dL_does_325 : decode cL_does 325 = .ok (.iconst 1, 1) := by decide +kernel
theorem dL_does_326 : decode cL_does 326 = .ok (.goto 4, 3) := by decide +kernel
theorem dL_does_329 : decode cL_does 329 = .ok (.iconst 0, 1) := by decide +kernel
theorem dL_does_330 : decode cL_does 330 = .ok (.ireturn, 1) := by decide +kernel
theorem dL_isFelt_0 : decode cL_isFelt 0 = .ok (.aload_n 0, 1) := by decide +kernel
theorem dL_isFelt_1 : decode cL_isFelt 1 = .ok (.iload_n 1, 1) := by decide +kernel
theorem dL_isFelt_2 : decode cL_isFelt 2 = .ok (.iload_n 2, 1) := by decide +kernel
theorem dL_isFelt_3 : decode cL_isFelt 3 = .ok (.invokevirtual 63, 3) := by decide +kernel
theorem dL_isFelt_6 : decode cL_isFelt 6 = .ok (.istore 4, 2) := by decide +kernel
theorem dL_isFelt_8 : decode cL_isFelt 8 = .ok (.aload_n 0, 1) := by decide +kernel
theorem dL_isFelt_9 : decode cL_isFelt 9 = .ok (.iload_n 1, 1) := by decide +kernel
theorem dL_isFelt_10 : decode cL_isFelt 10 = .ok (.invokevirtual 18, 3) := by decide +kernel
theorem dL_isFelt_13 : decode cL_isFelt 13 = .ok (.istore 5, 2) := by decide +kernel
theorem dL_isFelt_15 : decode cL_isFelt 15 = .ok (.aload_n 0, 1) := by decide +kernel
theorem dL_isFelt_16 : decode cL_isFelt 16 = .ok (.iload_n 1, 1) := by decide +kernel
theorem dL_isFelt_17 : decode cL_isFelt 17 = .ok (.invokevirtual 66, 3) := by decide +kernel
theorem dL_isFelt_20 : decode cL_isFelt 20 = .ok (.istore 6, 2) := by decide +kernel
theorem dL_isFelt_22 : decode cL_isFelt 22 = .ok (.aload_n 0, 1) := by decide +kernel
theorem dL_isFelt_23 : decode cL_isFelt 23 = .ok (.iload_n 1, 1) := by decide +kernel
theorem dL_isFelt_24 : decode cL_isFelt 24 = .ok (.invokevirtual 56, 3) := by decide +kernel
theorem dL_isFelt_27 : decode cL_isFelt 27 = .ok (.istore 7, 2) := by decide +kernel
theorem dL_isFelt_29 : decode cL_isFelt 29 = .ok (.aload_n 0, 1) := by decide +kernel
theorem dL_isFelt_30 : decode cL_isFelt 30 = .ok (.iload_n 1, 1) := by decide +kernel
theorem dL_isFelt_31 : decode cL_isFelt 31 = .ok (.invokevirtual 69, 3) := by decide +kernel
theorem dL_isFelt_34 : decode cL_isFelt 34 = .ok (.istore 8, 2) := by decide +kernel
theorem dL_isFelt_36 : decode cL_isFelt 36 = .ok (.aload_n 0, 1) := by decide +kernel
theorem dL_isFelt_37 : decode cL_isFelt 37 = .ok (.iload_n 1, 1) := by decide +kernel
theorem dL_isFelt_38 : decode cL_isFelt 38 = .ok (.invokevirtual 72, 3) := by decide +kernel
theorem dL_isFelt_41 : decode cL_isFelt 41 = .ok (.iload_n 2, 1) := by decide +kernel
theorem dL_isFelt_42 : decode cL_isFelt 42 = .ok (.ixor, 1) := by decide +kernel
theorem dL_isFelt_43 : decode cL_isFelt 43 = .ok (.iconst 3, 1) := by decide +kernel
theorem dL_isFelt_44 : decode cL_isFelt 44 = .ok (.if_icmp .ne 7, 3) := by decide +kernel
theorem dL_isFelt_47 : decode cL_isFelt 47 = .ok (.iconst 1, 1) := by decide +kernel
theorem dL_isFelt_48 : decode cL_isFelt 48 = .ok (.goto 4, 3) := by decide +kernel
theorem dL_isFelt_51 : decode cL_isFelt 51 = .ok (.iconst 0, 1) := by decide +kernel
theorem dL_isFelt_52 : decode cL_isFelt 52 = .ok (.istore 9, 2) := by decide +kernel
theorem dL_isFelt_54 : decode cL_isFelt 54 = .ok (.aload_n 0, 1) := by decide +kernel
theorem dL_isFelt_55 : decode cL_isFelt 55 = .ok (.iload_n 1, 1) := by decide +kernel
theorem dL_isFelt_56 : decode cL_isFelt 56 = .ok (.invokevirtual 24, 3) := by decide +kernel
theorem dL_isFelt_59 : decode cL_isFelt 59 = .ok (.istore 10, 2) := by decide +kernel
theorem dL_isFelt_61 : decode cL_isFelt 61 = .ok (.aload_n 0, 1) := by decide +kernel
theorem dL_isFelt_62 : decode cL_isFelt 62 = .ok (.iload_n 1, 1) := by decide +kernel
theorem dL_isFelt_63 : decode cL_isFelt 63 = .ok (.invokevirtual 27, 3) := by decide +kernel
theorem dL_isFelt_66 : decode cL_isFelt 66 = .ok (.istore 11, 2) := by decide +kernel
theorem dL_isFelt_68 : decode cL_isFelt 68 = .ok (.aload_n 0, 1) := by decide +kernel
theorem dL_isFelt_69 : decode cL_isFelt 69 = .ok (.iload_n 1, 1) := by decide +kernel
theorem dL_isFelt_70 : decode cL_isFelt 70 = .ok (.iload_n 2, 1) := by decide +kernel
theorem dL_isFelt_71 : decode cL_isFelt 71 = .ok (.iload_n 3, 1) := by decide +kernel
theorem dL_isFelt_72 : decode cL_isFelt 72 = .ok (.invokevirtual 75, 3) := by decide +kernel
theorem dL_isFelt_75 : decode cL_isFelt 75 = .ok (.iload 4, 2) := by decide +kernel
theorem dL_isFelt_77 : decode cL_isFelt 77 = .ok (.if_icmp .ne 70, 3) := by decide +kernel
theorem dL_isFelt_80 : decode cL_isFelt 80 = .ok (.aload_n 0, 1) := by decide +kernel
theorem dL_isFelt_81 : decode cL_isFelt 81 = .ok (.iload_n 1, 1) := by decide +kernel
theorem dL_isFelt_82 : decode cL_isFelt 82 = .ok (.invokevirtual 72, 3) := by decide +kernel
theorem dL_isFelt_85 : decode cL_isFelt 85 = .ok (.iload_n 2, 1) := by decide +kernel
theorem dL_isFelt_86 : decode cL_isFelt 86 = .ok (.if_icmp .ne 61, 3) := by decide +kernel
theorem dL_isFelt_89 : decode cL_isFelt 89 = .ok (.aload_n 0, 1) := by decide +kernel
theorem dL_isFelt_90 : decode cL_isFelt 90 = .ok (.iload_n 1, 1) := by decide +kernel
theorem dL_isFelt_91 : decode cL_isFelt 91 = .ok (.invokevirtual 18, 3) := by decide +kernel
theorem dL_isFelt_94 : decode cL_isFelt 94 = .ok (.iload 5, 2) := by decide +kernel
theorem dL_isFelt_96 : decode cL_isFelt 96 = .ok (.iload 4, 2) := by decide +kernel
theorem dL_isFelt_98 : decode cL_isFelt 98 = .ok (.iadd, 1) := by decide +kernel
theorem dL_isFelt_99 : decode cL_isFelt 99 = .ok (.if_icmp .ne 48, 3) := by decide +kernel
theorem dL_isFelt_102 : decode cL_isFelt 102 = .ok (.aload_n 0, 1) := by decide +kernel
theorem dL_isFelt_103 : decode cL_isFelt 103 = .ok (.iload_n 1, 1) := by decide +kernel
theorem dL_isFelt_104 : decode cL_isFelt 104 = .ok (.invokevirtual 66, 3) := by decide +kernel
theorem dL_isFelt_107 : decode cL_isFelt 107 = .ok (.iload 6, 2) := by decide +kernel
theorem dL_isFelt_109 : decode cL_isFelt 109 = .ok (.iload_n 3, 1) := by decide +kernel
theorem dL_isFelt_110 : decode cL_isFelt 110 = .ok (.iadd, 1) := by decide +kernel
theorem dL_isFelt_111 : decode cL_isFelt 111 = .ok (.if_icmp .ne 36, 3) := by decide +kernel
theorem dL_isFelt_114 : decode cL_isFelt 114 = .ok (.aload_n 0, 1) := by decide +kernel
theorem dL_isFelt_115 : decode cL_isFelt 115 = .ok (.iload_n 1, 1) := by decide +kernel
theorem dL_isFelt_116 : decode cL_isFelt 116 = .ok (.invokevirtual 24, 3) := by decide +kernel
theorem dL_isFelt_119 : decode cL_isFelt 119 = .ok (.iload 10, 2) := by decide +kernel
theorem dL_isFelt_121 : decode cL_isFelt 121 = .ok (.iload 9, 2) := by decide +kernel
theorem dL_isFelt_123 : decode cL_isFelt 123 = .ok (.iadd, 1) := by decide +kernel
theorem dL_isFelt_124 : decode cL_isFelt 124 = .ok (.if_icmp .ne 23, 3) := by decide +kernel
theorem dL_isFelt_127 : decode cL_isFelt 127 = .ok (.aload_n 0, 1) := by decide +kernel
theorem dL_isFelt_128 : decode cL_isFelt 128 = .ok (.iload_n 1, 1) := by decide +kernel
theorem dL_isFelt_129 : decode cL_isFelt 129 = .ok (.invokevirtual 27, 3) := by decide +kernel
theorem dL_isFelt_132 : decode cL_isFelt 132 = .ok (.iload 11, 2) := by decide +kernel
theorem dL_isFelt_134 : decode cL_isFelt 134 = .ok (.iload 4, 2) := by decide +kernel
end
section
theorem dL_isFelt_136 : decode cL_isFelt 136 = .ok (.invokestatic 33, 3) := by decide +kernel
theorem dL_isFelt_139 : decode cL_isFelt 139 = .ok (.iadd, 1) := by decide +kernel
theorem dL_isFelt_140 : decode cL_isFelt 140 = .ok (.if_icmp .ne 7, 3) := by decide +kernel
theorem dL_isFelt_143 : decode cL_isFelt 143 = .ok (.iconst 1, 1) := by decide +kernel
theorem dL_isFelt_144 : decode cL_isFelt 144 = .ok (.goto 4, 3) := by decide +kernel
theorem dL_isFelt_147 : decode cL_isFelt 147 = .ok (.iconst 0, 1) := by decide +kernel
theorem dL_isFelt_148 : decode cL_isFelt 148 = .ok (.istore 12, 2) := by decide +kernel
theorem dL_isFelt_150 : decode cL_isFelt 150 = .ok (.iload 12, 2) := by decide +kernel
theorem dL_isFelt_152 : decode cL_isFelt 152 = .ok (.ifCond .eq 76, 3) := by decide +kernel
theorem dL_isFelt_155 : decode cL_isFelt 155 = .ok (.aload_n 0, 1) := by decide +kernel
theorem dL_isFelt_156 : decode cL_isFelt 156 = .ok (.iload_n 1, 1) := by decide +kernel
theorem dL_isFelt_157 : decode cL_isFelt 157 = .ok (.invokevirtual 56, 3) := by decide +kernel
theorem dL_isFelt_160 : decode cL_isFelt 160 = .ok (.iload 7, 2) := by decide +kernel
theorem dL_isFelt_162 : decode cL_isFelt 162 = .ok (.bipush 16, 2) := by decide +kernel
theorem dL_isFelt_164 : decode cL_isFelt 164 = .ok (.if_icmp .ge 10, 3) := by decide +kernel
theorem dL_isFelt_167 : decode cL_isFelt 167 = .ok (.iload 7, 2) := by decide +kernel
theorem dL_isFelt_169 : decode cL_isFelt 169 = .ok (.iconst 1, 1) := by decide +kernel
theorem dL_isFelt_170 : decode cL_isFelt 170 = .ok (.iadd, 1) := by decide +kernel
theorem dL_isFelt_171 : decode cL_isFelt 171 = .ok (.goto 5, 3) := by decide +kernel
theorem dL_isFelt_174 : decode cL_isFelt 174 = .ok (.bipush 16, 2) := by decide +kernel
theorem dL_isFelt_176 : decode cL_isFelt 176 = .ok (.if_icmp .ne 52, 3) := by decide +kernel
theorem dL_isFelt_179 : decode cL_isFelt 179 = .ok (.aload_n 0, 1) := by decide +kernel
theorem dL_isFelt_180 : decode cL_isFelt 180 = .ok (.iload_n 1, 1) := by decide +kernel
theorem dL_isFelt_181 : decode cL_isFelt 181 = .ok (.aload_n 0, 1) := by decide +kernel
theorem dL_isFelt_182 : decode cL_isFelt 182 = .ok (.iload_n 1, 1) := by decide +kernel
theorem dL_isFelt_183 : decode cL_isFelt 183 = .ok (.invokevirtual 56, 3) := by decide +kernel
theorem dL_isFelt_186 : decode cL_isFelt 186 = .ok (.iconst 1, 1) := by decide +kernel
theorem dL_isFelt_187 : decode cL_isFelt 187 = .ok (.isub, 1) := by decide +kernel
theorem dL_isFelt_188 : decode cL_isFelt 188 = .ok (.invokevirtual 79, 3) := by decide +kernel
theorem dL_isFelt_191 : decode cL_isFelt 191 = .ok (.iload 4, 2) := by decide +kernel
theorem dL_isFelt_193 : decode cL_isFelt 193 = .ok (.if_icmp .ne 35, 3) := by decide +kernel
theorem dL_isFelt_196 : decode cL_isFelt 196 = .ok (.aload_n 0, 1) := by decide +kernel
theorem dL_isFelt_197 : decode cL_isFelt 197 = .ok (.iload_n 1, 1) := by decide +kernel
theorem dL_isFelt_198 : decode cL_isFelt 198 = .ok (.invokevirtual 69, 3) := by decide +kernel
theorem dL_isFelt_201 : decode cL_isFelt 201 = .ok (.iload 4, 2) := by decide +kernel
theorem dL_isFelt_203 : decode cL_isFelt 203 = .ok (.ifCond .le 7, 3) := by decide +kernel
theorem dL_isFelt_206 : decode cL_isFelt 206 = .ok (.iconst 1, 1) := by decide +kernel
theorem dL_isFelt_207 : decode cL_isFelt 207 = .ok (.goto 14, 3) := by decide +kernel
theorem dL_isFelt_210 : decode cL_isFelt 210 = .ok (.iload 4, 2) := by decide +kernel
theorem dL_isFelt_212 : decode cL_isFelt 212 = .ok (.ifCond .ge 7, 3) := by decide +kernel
theorem dL_isFelt_215 : decode cL_isFelt 215 = .ok (.iconst (-1), 1) := by decide +kernel
theorem dL_isFelt_216 : decode cL_isFelt 216 = .ok (.goto 5, 3) := by decide +kernel
theorem dL_isFelt_219 : decode cL_isFelt 219 = .ok (.iload 8, 2) := by decide +kernel
theorem dL_isFelt_221 : decode cL_isFelt 221 = .ok (.if_icmp .ne 7, 3) := by decide +kernel
theorem dL_isFelt_224 : decode cL_isFelt 224 = .ok (.iconst 1, 1) := by decide +kernel
theorem dL_isFelt_225 : decode cL_isFelt 225 = .ok (.goto 4, 3) := by decide +kernel
theorem dL_isFelt_228 : decode cL_isFelt 228 = .ok (.iconst 0, 1) := by decide +kernel
theorem dL_isFelt_229 : decode cL_isFelt 229 = .ok (.istore 12, 2) := by decide +kernel
theorem dL_isFelt_231 : decode cL_isFelt 231 = .ok (.iload 12, 2) := by decide +kernel
theorem dL_isFelt_233 : decode cL_isFelt 233 = .ok (.ifCond .eq 47, 3) := by decide +kernel
theorem dL_isFelt_236 : decode cL_isFelt 236 = .ok (.iload 9, 2) := by decide +kernel
theorem dL_isFelt_238 : decode cL_isFelt 238 = .ok (.ifCond .ne 18, 3) := by decide +kernel
theorem dL_isFelt_241 : decode cL_isFelt 241 = .ok (.iload 4, 2) := by decide +kernel
theorem dL_isFelt_243 : decode cL_isFelt 243 = .ok (.iconst (-1), 1) := by decide +kernel
theorem dL_isFelt_244 : decode cL_isFelt 244 = .ok (.if_icmp .lt 36, 3) := by decide +kernel
theorem dL_isFelt_247 : decode cL_isFelt 247 = .ok (.iload 4, 2) := by decide +kernel
theorem dL_isFelt_249 : decode cL_isFelt 249 = .ok (.iconst 1, 1) := by decide +kernel
theorem dL_isFelt_250 : decode cL_isFelt 250 = .ok (.if_icmp .gt 30, 3) := by decide +kernel
theorem dL_isFelt_253 : decode cL_isFelt 253 = .ok (.goto 23, 3) := by decide +kernel
theorem dL_isFelt_256 : decode cL_isFelt 256 = .ok (.iload 4, 2) := by decide +kernel
theorem dL_isFelt_258 : decode cL_isFelt 258 = .ok (.aload_n 0, 1) := by decide +kernel
theorem dL_isFelt_259 : decode cL_isFelt 259 = .ok (.invokevirtual 43, 3) := by decide +kernel
theorem dL_isFelt_262 : decode cL_isFelt 262 = .ok (.ifCond .ne 7, 3) := by decide +kernel
theorem dL_isFelt_265 : decode cL_isFelt 265 = .ok (.iconst 0, 1) := by decide +kernel
theorem dL_isFelt_266 : decode cL_isFelt 266 = .ok (.goto 7, 3) := by decide +kernel
theorem dL_isFelt_269 : decode cL_isFelt 269 = .ok (.iconst 2, 1) := by decide +kernel
theorem dL_isFelt_270 : decode cL_isFelt 270 = .ok (.iload 8, 2) := by decide +kernel
theorem dL_isFelt_272 : decode cL_isFelt 272 = .ok (.imul, 1) := by decide +kernel
theorem dL_isFelt_273 : decode cL_isFelt 273 = .ok (.if_icmp .ne 7, 3) := by decide +kernel
theorem dL_isFelt_276 : decode cL_isFelt 276 = .ok (.iconst 1, 1) := by decide +kernel
theorem dL_isFelt_277 : decode cL_isFelt 277 = .ok (.goto 4, 3) := by decide +kernel
theorem dL_isFelt_280 : decode cL_isFelt 280 = .ok (.iconst 0, 1) := by decide +kernel
theorem dL_isFelt_281 : decode cL_isFelt 281 = .ok (.ireturn, 1) := by decide +kernel
theorem dL_isMarked_0 : decode cL_isMarked 0 = .ok (.aload_n 0, 1) := by decide +kernel
theorem dL_isMarked_1 : decode cL_isMarked 1 = .ok (.iload_n 1, 1) := by decide +kernel
theorem dL_isMarked_2 : decode cL_isMarked 2 = .ok (.invokevirtual 82, 3) := by decide +kernel
theorem dL_isMarked_5 : decode cL_isMarked 5 = .ok (.istore_n 2, 1) := by decide +kernel
theorem dL_isMarked_6 : decode cL_isMarked 6 = .ok (.aload_n 0, 1) := by decide +kernel
theorem dL_isMarked_7 : decode cL_isMarked 7 = .ok (.iload_n 1, 1) := by decide +kernel
theorem dL_isMarked_8 : decode cL_isMarked 8 = .ok (.invokevirtual 85, 3) := by decide +kernel
theorem dL_isMarked_11 : decode cL_isMarked 11 = .ok (.istore_n 3, 1) := by decide +kernel
theorem dL_isMarked_12 : decode cL_isMarked 12 = .ok (.aload_n 0, 1) := by decide +kernel
theorem dL_isMarked_13 : decode cL_isMarked 13 = .ok (.iload_n 1, 1) := by decide +kernel
theorem dL_isMarked_14 : decode cL_isMarked 14 = .ok (.invokevirtual 18, 3) := by decide +kernel
theorem dL_isMarked_17 : decode cL_isMarked 17 = .ok (.istore 4, 2) := by decide +kernel
theorem dL_isMarked_19 : decode cL_isMarked 19 = .ok (.iconst 2, 1) := by decide +kernel
theorem dL_isMarked_20 : decode cL_isMarked 20 = .ok (.iload_n 2, 1) := by decide +kernel
theorem dL_isMarked_21 : decode cL_isMarked 21 = .ok (.imul, 1) := by decide +kernel
theorem dL_isMarked_22 : decode cL_isMarked 22 = .ok (.aload_n 0, 1) := by decide +kernel
theorem dL_isMarked_23 : decode cL_isMarked 23 = .ok (.invokevirtual 50, 3) := by decide +kernel
theorem dL_isMarked_26 : decode cL_isMarked 26 = .ok (.if_icmp .gt 7, 3) := by decide +kernel
theorem dL_isMarked_29 : decode cL_isMarked 29 = .ok (.iload_n 2, 1) := by decide +kernel
theorem dL_isMarked_30 : decode cL_isMarked 30 = .ok (.goto 9, 3) := by decide +kernel
theorem dL_isMarked_33 : decode cL_isMarked 33 = .ok (.iload_n 2, 1) := by decide +kernel
theorem dL_isMarked_34 : decode cL_isMarked 34 = .ok (.aload_n 0, 1) := by decide +kernel
theorem dL_isMarked_35 : decode cL_isMarked 35 = .ok (.invokevirtual 50, 3) := by decide +kernel
theorem dL_isMarked_38 : decode cL_isMarked 38 = .ok (.isub, 1) := by decide +kernel
theorem dL_isMarked_39 : decode cL_isMarked 39 = .ok (.istore 5, 2) := by decide +kernel
theorem dL_isMarked_41 : decode cL_isMarked 41 = .ok (.aload_n 0, 1) := by decide +kernel
theorem dL_isMarked_42 : decode cL_isMarked 42 = .ok (.iload_n 1, 1) := by decide +kernel
theorem dL_isMarked_43 : decode cL_isMarked 43 = .ok (.invokevirtual 88, 3) := by decide +kernel
theorem dL_isMarked_46 : decode cL_isMarked 46 = .ok (.iload 5, 2) := by decide +kernel
theorem dL_isMarked_48 : decode cL_isMarked 48 = .ok (.if_icmp .ne 51, 3) := by decide +kernel
theorem dL_isMarked_51 : decode cL_isMarked 51 = .ok (.aload_n 0, 1) := by decide +kernel
theorem dL_isMarked_52 : decode cL_isMarked 52 = .ok (.iload_n 1, 1) := by decide +kernel
theorem dL_isMarked_53 : decode cL_isMarked 53 = .ok (.invokevirtual 85, 3) := by decide +kernel
theorem dL_isMarked_56 : decode cL_isMarked 56 = .ok (.iload_n 3, 1) := by decide +kernel
theorem dL_isMarked_57 : decode cL_isMarked 57 = .ok (.iload 5, 2) := by decide +kernel
theorem dL_isMarked_59 : decode cL_isMarked 59 = .ok (.invokestatic 33, 3) := by decide +kernel
theorem dL_isMarked_62 : decode cL_isMarked 62 = .ok (.iadd, 1) := by decide +kernel
theorem dL_isMarked_63 : decode cL_isMarked 63 = .ok (.if_icmp .ne 36, 3) := by decide +kernel
theorem dL_isMarked_66 : decode cL_isMarked 66 = .ok (.aload_n 0, 1) := by decide +kernel
theorem dL_isMarked_67 : decode cL_isMarked 67 = .ok (.iload_n 1, 1) := by decide +kernel
theorem dL_isMarked_68 : decode cL_isMarked 68 = .ok (.invokevirtual 18, 3) := by decide +kernel
theorem dL_isMarked_71 : decode cL_isMarked 71 = .ok (.iload 4, 2) := by decide +kernel
theorem dL_isMarked_73 : decode cL_isMarked 73 = .ok (.iload 5, 2) := by decide +kernel
theorem dL_isMarked_75 : decode cL_isMarked 75 = .ok (.isub, 1) := by decide +kernel
theorem dL_isMarked_76 : decode cL_isMarked 76 = .ok (.if_icmp .ne 23, 3) := by decide +kernel
theorem dL_isMarked_79 : decode cL_isMarked 79 = .ok (.aload_n 0, 1) := by decide +kernel
theorem dL_isMarked_80 : decode cL_isMarked 80 = .ok (.iload_n 1, 1) := by decide +kernel
theorem dL_isMarked_81 : decode cL_isMarked 81 = .ok (.invokevirtual 82, 3) := by decide +kernel
theorem dL_isMarked_84 : decode cL_isMarked 84 = .ok (.ifCond .ne 15, 3) := by decide +kernel
theorem dL_isMarked_87 : decode cL_isMarked 87 = .ok (.aload_n 0, 1) := by decide +kernel
theorem dL_isMarked_88 : decode cL_isMarked 88 = .ok (.iload_n 1, 1) := by decide +kernel
theorem dL_isMarked_89 : decode cL_isMarked 89 = .ok (.invokevirtual 88, 3) := by decide +kernel
theorem dL_isMarked_92 : decode cL_isMarked 92 = .ok (.ifCond .ne 7, 3) := by decide +kernel
theorem dL_isMarked_95 : decode cL_isMarked 95 = .ok (.iconst 1, 1) := by decide +kernel
theorem dL_isMarked_96 : decode cL_isMarked 96 = .ok (.goto 4, 3) := by decide +kernel
theorem dL_isMarked_99 : decode cL_isMarked 99 = .ok (.iconst 0, 1) := by decide +kernel
theorem dL_isMarked_100 : decode cL_isMarked 100 = .ok (.ireturn, 1) := by decide +kernel
theorem dL_isBack_0 : decode cL_isBack 0 = .ok (.aload_n 0, 1) := by decide +kernel
theorem dL_isBack_1 : decode cL_isBack 1 = .ok (.iload_n 1, 1) := by decide +kernel
theorem dL_isBack_2 : decode cL_isBack 2 = .ok (.invokevirtual 56, 3) := by decide +kernel
theorem dL_isBack_5 : decode cL_isBack 5 = .ok (.istore_n 3, 1) := by decide +kernel
theorem dL_isBack_6 : decode cL_isBack 6 = .ok (.iconst 0, 1) := by decide +kernel
theorem dL_isBack_7 : decode cL_isBack 7 = .ok (.istore 4, 2) := by decide +kernel
theorem dL_isBack_9 : decode cL_isBack 9 = .ok (.iconst 0, 1) := by decide +kernel
theorem dL_isBack_10 : decode cL_isBack 10 = .ok (.istore 5, 2) := by decide +kernel
theorem dL_isBack_12 : decode cL_isBack 12 = .ok (.iload_n 3, 1) := by decide +kernel
theorem dL_isBack_13 : decode cL_isBack 13 = .ok (.iload_n 2, 1) := by decide +kernel
theorem dL_isBack_14 : decode cL_isBack 14 = .ok (.isub, 1) := by decide +kernel
theorem dL_isBack_15 : decode cL_isBack 15 = .ok (.istore 6, 2) := by decide +kernel
theorem dL_isBack_17 : decode cL_isBack 17 = .ok (.iload 6, 2) := by decide +kernel
theorem dL_isBack_19 : decode cL_isBack 19 = .ok (.iload_n 3, 1) := by decide +kernel
theorem dL_isBack_20 : decode cL_isBack 20 = .ok (.if_icmp .ge 36, 3) := by decide +kernel
theorem dL_isBack_23 : decode cL_isBack 23 = .ok (.iload 4, 2) := by decide +kernel
theorem dL_isBack_25 : decode cL_isBack 25 = .ok (.aload_n 0, 1) := by decide +kernel
theorem dL_isBack_26 : decode cL_isBack 26 = .ok (.iload_n 1, 1) := by decide +kernel
theorem dL_isBack_27 : decode cL_isBack 27 = .ok (.iload 6, 2) := by decide +kernel
theorem dL_isBack_29 : decode cL_isBack 29 = .ok (.invokevirtual 79, 3) := by decide +kernel
theorem dL_isBack_32 : decode cL_isBack 32 = .ok (.iadd, 1) := by decide +kernel
theorem dL_isBack_33 : decode cL_isBack 33 = .ok (.istore 4, 2) := by decide +kernel
theorem dL_isBack_35 : decode cL_isBack 35 = .ok (.iload 5, 2) := by decide +kernel
theorem dL_isBack_37 : decode cL_isBack 37 = .ok (.aload_n 0, 1) := by decide +kernel
theorem dL_isBack_38 : decode cL_isBack 38 = .ok (.iload_n 1, 1) := by decide +kernel
theorem dL_isBack_39 : decode cL_isBack 39 = .ok (.iload 6, 2) := by decide +kernel
theorem dL_isBack_41 : decode cL_isBack 41 = .ok (.invokevirtual 79, 3) := by decide +kernel
theorem dL_isBack_44 : decode cL_isBack 44 = .ok (.invokestatic 33, 3) := by decide +kernel
theorem dL_isBack_47 : decode cL_isBack 47 = .ok (.iadd, 1) := by decide +kernel
theorem dL_isBack_48 : decode cL_isBack 48 = .ok (.istore 5, 2) := by decide +kernel
theorem dL_isBack_50 : decode cL_isBack 50 = .ok (.iinc 6 1, 3) := by decide +kernel
theorem dL_isBack_53 : decode cL_isBack 53 = .ok (.goto (-36), 3) := by decide +kernel
theorem dL_isBack_56 : decode cL_isBack 56 = .ok (.aload_n 0, 1) := by decide +kernel
theorem dL_isBack_57 : decode cL_isBack 57 = .ok (.iload_n 1, 1) := by decide +kernel
theorem dL_isBack_58 : decode cL_isBack 58 = .ok (.invokevirtual 18, 3) := by decide +kernel
theorem dL_isBack_61 : decode cL_isBack 61 = .ok (.istore 6, 2) := by decide +kernel
theorem dL_isBack_63 : decode cL_isBack 63 = .ok (.aload_n 0, 1) := by decide +kernel
theorem dL_isBack_64 : decode cL_isBack 64 = .ok (.iload_n 1, 1) := by decide +kernel
theorem dL_isBack_65 : decode cL_isBack 65 = .ok (.invokevirtual 27, 3) := by decide +kernel
theorem dL_isBack_68 : decode cL_isBack 68 = .ok (.istore 7, 2) := by decide +kernel
theorem dL_isBack_70 : decode cL_isBack 70 = .ok (.aload_n 0, 1) := by decide +kernel
theorem dL_isBack_71 : decode cL_isBack 71 = .ok (.iload_n 1, 1) := by decide +kernel
theorem dL_isBack_72 : decode cL_isBack 72 = .ok (.invokevirtual 24, 3) := by decide +kernel
theorem dL_isBack_75 : decode cL_isBack 75 = .ok (.istore 8, 2) := by decide +kernel
theorem dL_isBack_77 : decode cL_isBack 77 = .ok (.aload_n 0, 1) := by decide +kernel
theorem dL_isBack_78 : decode cL_isBack 78 = .ok (.iload_n 1, 1) := by decide +kernel
theorem dL_isBack_79 : decode cL_isBack 79 = .ok (.iload_n 2, 1) := by decide +kernel
theorem dL_isBack_80 : decode cL_isBack 80 = .ok (.invokevirtual 91, 3) := by decide +kernel
theorem dL_isBack_83 : decode cL_isBack 83 = .ok (.iload 6, 2) := by decide +kernel
theorem dL_isBack_85 : decode cL_isBack 85 = .ok (.iload 4, 2) := by decide +kernel
theorem dL_isBack_87 : decode cL_isBack 87 = .ok (.isub, 1) := by decide +kernel
theorem dL_isBack_88 : decode cL_isBack 88 = .ok (.if_icmp .ne 41, 3) := by decide +kernel
theorem dL_isBack_91 : decode cL_isBack 91 = .ok (.aload_n 0, 1) := by decide +kernel
theorem dL_isBack_92 : decode cL_isBack 92 = .ok (.iload_n 1, 1) := by decide +kernel
theorem dL_isBack_93 : decode cL_isBack 93 = .ok (.invokevirtual 56, 3) := by decide +kernel
theorem dL_isBack_96 : decode cL_isBack 96 = .ok (.iload_n 3, 1) := by decide +kernel
theorem dL_isBack_97 : decode cL_isBack 97 = .ok (.iload_n 2, 1) := by decide +kernel
theorem dL_isBack_98 : decode cL_isBack 98 = .ok (.isub, 1) := by decide +kernel
theorem dL_isBack_99 : decode cL_isBack 99 = .ok (.if_icmp .ne 30, 3) := by decide +kernel
theorem dL_isBack_102 : decode cL_isBack 102 = .ok (.aload_n 0, 1) := by decide +kernel
theorem dL_isBack_103 : decode cL_isBack 103 = .ok (.iload_n 1, 1) := by decide +kernel
theorem dL_isBack_104 : decode cL_isBack 104 = .ok (.invokevirtual 27, 3) := by decide +kernel
theorem dL_isBack_107 : decode cL_isBack 107 = .ok (.iload 7, 2) := by decide +kernel
theorem dL_isBack_109 : decode cL_isBack 109 = .ok (.iload 5, 2) := by decide +kernel
theorem dL_isBack_111 : decode cL_isBack 111 = .ok (.iadd, 1) := by decide +kernel
theorem dL_isBack_112 : decode cL_isBack 112 = .ok (.if_icmp .ne 17, 3) := by decide +kernel
theorem dL_isBack_115 : decode cL_isBack 115 = .ok (.aload_n 0, 1) := by decide +kernel
theorem dL_isBack_116 : decode cL_isBack 116 = .ok (.iload_n 1, 1) := by decide +kernel
theorem dL_isBack_117 : decode cL_isBack 117 = .ok (.invokevirtual 24, 3) := by decide +kernel
theorem dL_isBack_120 : decode cL_isBack 120 = .ok (.iload 8, 2) := by decide +kernel
theorem dL_isBack_122 : decode cL_isBack 122 = .ok (.if_icmp .ne 7, 3) := by decide +kernel
theorem dL_isBack_125 : decode cL_isBack 125 = .ok (.iconst 1, 1) := by decide +kernel
theorem dL_isBack_126 : decode cL_isBack 126 = .ok (.goto 4, 3) := by decide +kernel
theorem dL_isBack_129 : decode cL_isBack 129 = .ok (.iconst 0, 1) := by decide +kernel
theorem dL_isBack_130 : decode cL_isBack 130 = .ok (.ireturn, 1) := by decide +kernel
theorem dL_isThereAndBack_0 : decode cL_isThereAndBack 0 = .ok (.aload_n 0, 1) := by decide +kernel
theorem dL_isThereAndBack_1 : decode cL_isThereAndBack 1 = .ok (.iload_n 1, 1) := by decide +kernel
theorem dL_isThereAndBack_2 : decode cL_isThereAndBack 2 = .ok (.invokevirtual 18, 3) := by decide +kernel
theorem dL_isThereAndBack_5 : decode cL_isThereAndBack 5 = .ok (.istore 4, 2) := by decide +kernel
theorem dL_isThereAndBack_7 : decode cL_isThereAndBack 7 = .ok (.aload_n 0, 1) := by decide +kernel
theorem dL_isThereAndBack_8 : decode cL_isThereAndBack 8 = .ok (.iload_n 1, 1) := by decide +kernel
theorem dL_isThereAndBack_9 : decode cL_isThereAndBack 9 = .ok (.invokevirtual 72, 3) := by decide +kernel
theorem dL_isThereAndBack_12 : decode cL_isThereAndBack 12 = .ok (.istore 5, 2) := by decide +kernel
theorem dL_isThereAndBack_14 : decode cL_isThereAndBack 14 = .ok (.aload_n 0, 1) := by decide +kernel
theorem dL_isThereAndBack_15 : decode cL_isThereAndBack 15 = .ok (.iload_n 1, 1) := by decide +kernel
theorem dL_isThereAndBack_16 : decode cL_isThereAndBack 16 = .ok (.invokevirtual 94, 3) := by decide +kernel
theorem dL_isThereAndBack_19 : decode cL_isThereAndBack 19 = .ok (.istore 6, 2) := by decide +kernel
theorem dL_isThereAndBack_21 : decode cL_isThereAndBack 21 = .ok (.iconst 1, 1) := by decide +kernel
theorem dL_isThereAndBack_22 : decode cL_isThereAndBack 22 = .ok (.iload_n 3, 1) := by decide +kernel
theorem dL_isThereAndBack_23 : decode cL_isThereAndBack 23 = .ok (.bipush 8, 2) := by decide +kernel
theorem dL_isThereAndBack_25 : decode cL_isThereAndBack 25 = .ok (.invokestatic 8, 3) := by decide +kernel
theorem dL_isThereAndBack_28 : decode cL_isThereAndBack 28 = .ok (.iadd, 1) := by decide +kernel
theorem dL_isThereAndBack_29 : decode cL_isThereAndBack 29 = .ok (.istore 7, 2) := by decide +kernel
theorem dL_isThereAndBack_31 : decode cL_isThereAndBack 31 = .ok (.iconst 1, 1) := by decide +kernel
theorem dL_isThereAndBack_32 : decode cL_isThereAndBack 32 = .ok (.istore 8, 2) := by decide +kernel
theorem dL_isThereAndBack_34 : decode cL_isThereAndBack 34 = .ok (.iconst 0, 1) := by decide +kernel
theorem dL_isThereAndBack_35 : decode cL_isThereAndBack 35 = .ok (.istore 9, 2) := by decide +kernel
theorem dL_isThereAndBack_37 : decode cL_isThereAndBack 37 = .ok (.iload 9, 2) := by decide +kernel
theorem dL_isThereAndBack_39 : decode cL_isThereAndBack 39 = .ok (.iload 7, 2) := by decide +kernel
theorem dL_isThereAndBack_41 : decode cL_isThereAndBack 41 = .ok (.if_icmp .ge 41, 3) := by decide +kernel
theorem dL_isThereAndBack_44 : decode cL_isThereAndBack 44 = .ok (.iload 8, 2) := by decide +kernel
theorem dL_isThereAndBack_46 : decode cL_isThereAndBack 46 = .ok (.ifCond .eq 27, 3) := by decide +kernel
theorem dL_isThereAndBack_49 : decode cL_isThereAndBack 49 = .ok (.aload_n 0, 1) := by decide +kernel
theorem dL_isThereAndBack_50 : decode cL_isThereAndBack 50 = .ok (.iload_n 1, 1) := by decide +kernel
theorem dL_isThereAndBack_51 : decode cL_isThereAndBack 51 = .ok (.iload_n 2, 1) := by decide +kernel
theorem dL_isThereAndBack_52 : decode cL_isThereAndBack 52 = .ok (.iload 9, 2) := by decide +kernel
theorem dL_isThereAndBack_54 : decode cL_isThereAndBack 54 = .ok (.ishr, 1) := by decide +kernel
theorem dL_isThereAndBack_55 : decode cL_isThereAndBack 55 = .ok (.iconst 4, 1) := by decide +kernel
theorem dL_isThereAndBack_56 : decode cL_isThereAndBack 56 = .ok (.invokestatic 8, 3) := by decide +kernel
theorem dL_isThereAndBack_59 : decode cL_isThereAndBack 59 = .ok (.iconst 1, 1) := by decide +kernel
theorem dL_isThereAndBack_60 : decode cL_isThereAndBack 60 = .ok (.iload 9, 2) := by decide +kernel
theorem dL_isThereAndBack_62 : decode cL_isThereAndBack 62 = .ok (.iadd, 1) := by decide +kernel
theorem dL_isThereAndBack_63 : decode cL_isThereAndBack 63 = .ok (.invokestatic 14, 3) := by decide +kernel
theorem dL_isThereAndBack_66 : decode cL_isThereAndBack 66 = .ok (.ifCond .eq 7, 3) := by decide +kernel
theorem dL_isThereAndBack_69 : decode cL_isThereAndBack 69 = .ok (.iconst 1, 1) := by decide +kernel
theorem dL_isThereAndBack_70 : decode cL_isThereAndBack 70 = .ok (.goto 4, 3) := by decide +kernel
theorem dL_isThereAndBack_73 : decode cL_isThereAndBack 73 = .ok (.iconst 0, 1) := by decide +kernel
theorem dL_isThereAndBack_74 : decode cL_isThereAndBack 74 = .ok (.istore 8, 2) := by decide +kernel
theorem dL_isThereAndBack_76 : decode cL_isThereAndBack 76 = .ok (.iinc 9 1, 3) := by decide +kernel
theorem dL_isThereAndBack_79 : decode cL_isThereAndBack 79 = .ok (.goto (-42), 3) := by decide +kernel
theorem dL_isThereAndBack_82 : decode cL_isThereAndBack 82 = .ok (.iload 8, 2) := by decide +kernel
theorem dL_isThereAndBack_84 : decode cL_isThereAndBack 84 = .ok (.ifCond .eq 39, 3) := by decide +kernel
theorem dL_isThereAndBack_87 : decode cL_isThereAndBack 87 = .ok (.aload_n 0, 1) := by decide +kernel
theorem dL_isThereAndBack_88 : decode cL_isThereAndBack 88 = .ok (.iload_n 1, 1) := by decide +kernel
theorem dL_isThereAndBack_89 : decode cL_isThereAndBack 89 = .ok (.iload 7, 2) := by decide +kernel
theorem dL_isThereAndBack_91 : decode cL_isThereAndBack 91 = .ok (.invokevirtual 91, 3) := by decide +kernel
theorem dL_isThereAndBack_94 : decode cL_isThereAndBack 94 = .ok (.iload 4, 2) := by decide +kernel
theorem dL_isThereAndBack_96 : decode cL_isThereAndBack 96 = .ok (.if_icmp .ne 27, 3) := by decide +kernel
theorem dL_isThereAndBack_99 : decode cL_isThereAndBack 99 = .ok (.aload_n 0, 1) := by decide +kernel
theorem dL_isThereAndBack_100 : decode cL_isThereAndBack 100 = .ok (.iload_n 1, 1) := by decide +kernel
end
section
theorem dL_isThereAndBack_101 : decode cL_isThereAndBack 101 = .ok (.invokevirtual 72, 3) := by decide +kernel
theorem dL_isThereAndBack_104 : decode cL_isThereAndBack 104 = .ok (.iload 5, 2) := by decide +kernel
theorem dL_isThereAndBack_106 : decode cL_isThereAndBack 106 = .ok (.if_icmp .ne 17, 3) := by decide +kernel
theorem dL_isThereAndBack_109 : decode cL_isThereAndBack 109 = .ok (.aload_n 0, 1) := by decide +kernel
theorem dL_isThereAndBack_110 : decode cL_isThereAndBack 110 = .ok (.iload_n 1, 1) := by decide +kernel
theorem dL_isThereAndBack_111 : decode cL_isThereAndBack 111 = .ok (.invokevirtual 94, 3) := by decide +kernel
theorem dL_isThereAndBack_114 : decode cL_isThereAndBack 114 = .ok (.iload 6, 2) := by decide +kernel
theorem dL_isThereAndBack_116 : decode cL_isThereAndBack 116 = .ok (.if_icmp .ne 7, 3) := by decide +kernel
theorem dL_isThereAndBack_119 : decode cL_isThereAndBack 119 = .ok (.iconst 1, 1) := by decide +kernel
theorem dL_isThereAndBack_120 : decode cL_isThereAndBack 120 = .ok (.goto 4, 3) := by decide +kernel
theorem dL_isThereAndBack_123 : decode cL_isThereAndBack 123 = .ok (.iconst 0, 1) := by decide +kernel
theorem dL_isThereAndBack_124 : decode cL_isThereAndBack 124 = .ok (.ireturn, 1) := by decide +kernel
theorem dL_isSnailSo_0 : decode cL_isSnailSo 0 = .ok (.aload_n 0, 1) := by decide +kernel
theorem dL_isSnailSo_1 : decode cL_isSnailSo 1 = .ok (.iload_n 1, 1) := by decide +kernel
theorem dL_isSnailSo_2 : decode cL_isSnailSo 2 = .ok (.invokevirtual 82, 3) := by decide +kernel
theorem dL_isSnailSo_5 : decode cL_isSnailSo 5 = .ok (.istore_n 2, 1) := by decide +kernel
theorem dL_isSnailSo_6 : decode cL_isSnailSo 6 = .ok (.iconst 0, 1) := by decide +kernel
theorem dL_isSnailSo_7 : decode cL_isSnailSo 7 = .ok (.istore_n 3, 1) := by decide +kernel
theorem dL_isSnailSo_8 : decode cL_isSnailSo 8 = .ok (.iconst 0, 1) := by decide +kernel
theorem dL_isSnailSo_9 : decode cL_isSnailSo 9 = .ok (.istore 4, 2) := by decide +kernel
theorem dL_isSnailSo_11 : decode cL_isSnailSo 11 = .ok (.aload_n 0, 1) := by decide +kernel
theorem dL_isSnailSo_12 : decode cL_isSnailSo 12 = .ok (.iload_n 1, 1) := by decide +kernel
theorem dL_isSnailSo_13 : decode cL_isSnailSo 13 = .ok (.invokevirtual 97, 3) := by decide +kernel
theorem dL_isSnailSo_16 : decode cL_isSnailSo 16 = .ok (.aload_n 0, 1) := by decide +kernel
theorem dL_isSnailSo_17 : decode cL_isSnailSo 17 = .ok (.iload_n 1, 1) := by decide +kernel
theorem dL_isSnailSo_18 : decode cL_isSnailSo 18 = .ok (.invokevirtual 18, 3) := by decide +kernel
theorem dL_isSnailSo_21 : decode cL_isSnailSo 21 = .ok (.if_icmp .ne 52, 3) := by decide +kernel
theorem dL_isSnailSo_24 : decode cL_isSnailSo 24 = .ok (.aload_n 0, 1) := by decide +kernel
theorem dL_isSnailSo_25 : decode cL_isSnailSo 25 = .ok (.iload_n 1, 1) := by decide +kernel
theorem dL_isSnailSo_26 : decode cL_isSnailSo 26 = .ok (.invokevirtual 100, 3) := by decide +kernel
theorem dL_isSnailSo_29 : decode cL_isSnailSo 29 = .ok (.aload_n 0, 1) := by decide +kernel
theorem dL_isSnailSo_30 : decode cL_isSnailSo 30 = .ok (.invokevirtual 50, 3) := by decide +kernel
theorem dL_isSnailSo_33 : decode cL_isSnailSo 33 = .ok (.imul, 1) := by decide +kernel
theorem dL_isSnailSo_34 : decode cL_isSnailSo 34 = .ok (.iload_n 2, 1) := by decide +kernel
theorem dL_isSnailSo_35 : decode cL_isSnailSo 35 = .ok (.iadd, 1) := by decide +kernel
theorem dL_isSnailSo_36 : decode cL_isSnailSo 36 = .ok (.aload_n 0, 1) := by decide +kernel
theorem dL_isSnailSo_37 : decode cL_isSnailSo 37 = .ok (.iload_n 1, 1) := by decide +kernel
theorem dL_isSnailSo_38 : decode cL_isSnailSo 38 = .ok (.invokevirtual 18, 3) := by decide +kernel
theorem dL_isSnailSo_41 : decode cL_isSnailSo 41 = .ok (.if_icmp .ne 32, 3) := by decide +kernel
theorem dL_isSnailSo_44 : decode cL_isSnailSo 44 = .ok (.iload_n 2, 1) := by decide +kernel
theorem dL_isSnailSo_45 : decode cL_isSnailSo 45 = .ok (.ifCond .lt 28, 3) := by decide +kernel
theorem dL_isSnailSo_48 : decode cL_isSnailSo 48 = .ok (.iload_n 2, 1) := by decide +kernel
theorem dL_isSnailSo_49 : decode cL_isSnailSo 49 = .ok (.aload_n 0, 1) := by decide +kernel
theorem dL_isSnailSo_50 : decode cL_isSnailSo 50 = .ok (.invokevirtual 50, 3) := by decide +kernel
theorem dL_isSnailSo_53 : decode cL_isSnailSo 53 = .ok (.if_icmp .ge 20, 3) := by decide +kernel
theorem dL_isSnailSo_56 : decode cL_isSnailSo 56 = .ok (.aload_n 0, 1) := by decide +kernel
theorem dL_isSnailSo_57 : decode cL_isSnailSo 57 = .ok (.iload_n 1, 1) := by decide +kernel
theorem dL_isSnailSo_58 : decode cL_isSnailSo 58 = .ok (.aload_n 0, 1) := by decide +kernel
theorem dL_isSnailSo_59 : decode cL_isSnailSo 59 = .ok (.iload_n 1, 1) := by decide +kernel
theorem dL_isSnailSo_60 : decode cL_isSnailSo 60 = .ok (.invokevirtual 72, 3) := by decide +kernel
theorem dL_isSnailSo_63 : decode cL_isSnailSo 63 = .ok (.invokevirtual 63, 3) := by decide +kernel
theorem dL_isSnailSo_66 : decode cL_isSnailSo 66 = .ok (.ifCond .ne 7, 3) := by decide +kernel
theorem dL_isSnailSo_69 : decode cL_isSnailSo 69 = .ok (.iconst 1, 1) := by decide +kernel
theorem dL_isSnailSo_70 : decode cL_isSnailSo 70 = .ok (.goto 4, 3) := by decide +kernel
theorem dL_isSnailSo_73 : decode cL_isSnailSo 73 = .ok (.iconst 0, 1) := by decide +kernel
theorem dL_isSnailSo_74 : decode cL_isSnailSo 74 = .ok (.istore 5, 2) := by decide +kernel
theorem dL_isSnailSo_76 : decode cL_isSnailSo 76 = .ok (.iconst 0, 1) := by decide +kernel
theorem dL_isSnailSo_77 : decode cL_isSnailSo 77 = .ok (.istore 6, 2) := by decide +kernel
theorem dL_isSnailSo_79 : decode cL_isSnailSo 79 = .ok (.iload 6, 2) := by decide +kernel
theorem dL_isSnailSo_81 : decode cL_isSnailSo 81 = .ok (.iconst 4, 1) := by decide +kernel
theorem dL_isSnailSo_82 : decode cL_isSnailSo 82 = .ok (.if_icmp .ge 49, 3) := by decide +kernel
theorem dL_isSnailSo_85 : decode cL_isSnailSo 85 = .ok (.iload_n 3, 1) := by decide +kernel
theorem dL_isSnailSo_86 : decode cL_isSnailSo 86 = .ok (.aload_n 0, 1) := by decide +kernel
theorem dL_isSnailSo_87 : decode cL_isSnailSo 87 = .ok (.iload_n 1, 1) := by decide +kernel
theorem dL_isSnailSo_88 : decode cL_isSnailSo 88 = .ok (.iload 6, 2) := by decide +kernel
theorem dL_isSnailSo_90 : decode cL_isSnailSo 90 = .ok (.invokevirtual 63, 3) := by decide +kernel
theorem dL_isSnailSo_93 : decode cL_isSnailSo 93 = .ok (.iconst 1, 1) := by decide +kernel
theorem dL_isSnailSo_94 : decode cL_isSnailSo 94 = .ok (.if_icmp .ne 7, 3) := by decide +kernel
theorem dL_isSnailSo_97 : decode cL_isSnailSo 97 = .ok (.iconst 1, 1) := by decide +kernel
theorem dL_isSnailSo_98 : decode cL_isSnailSo 98 = .ok (.goto 4, 3) := by decide +kernel
theorem dL_isSnailSo_101 : decode cL_isSnailSo 101 = .ok (.iconst 0, 1) := by decide +kernel
theorem dL_isSnailSo_102 : decode cL_isSnailSo 102 = .ok (.iadd, 1) := by decide +kernel
theorem dL_isSnailSo_103 : decode cL_isSnailSo 103 = .ok (.istore_n 3, 1) := by decide +kernel
theorem dL_isSnailSo_104 : decode cL_isSnailSo 104 = .ok (.iload 4, 2) := by decide +kernel
theorem dL_isSnailSo_106 : decode cL_isSnailSo 106 = .ok (.aload_n 0, 1) := by decide +kernel
theorem dL_isSnailSo_107 : decode cL_isSnailSo 107 = .ok (.iload_n 1, 1) := by decide +kernel
theorem dL_isSnailSo_108 : decode cL_isSnailSo 108 = .ok (.iload 6, 2) := by decide +kernel
theorem dL_isSnailSo_110 : decode cL_isSnailSo 110 = .ok (.invokevirtual 63, 3) := by decide +kernel
theorem dL_isSnailSo_113 : decode cL_isSnailSo 113 = .ok (.iconst (-1), 1) := by decide +kernel
theorem dL_isSnailSo_114 : decode cL_isSnailSo 114 = .ok (.if_icmp .ne 7, 3) := by decide +kernel
theorem dL_isSnailSo_117 : decode cL_isSnailSo 117 = .ok (.iconst 1, 1) := by decide +kernel
theorem dL_isSnailSo_118 : decode cL_isSnailSo 118 = .ok (.goto 4, 3) := by decide +kernel
theorem dL_isSnailSo_121 : decode cL_isSnailSo 121 = .ok (.iconst 0, 1) := by decide +kernel
theorem dL_isSnailSo_122 : decode cL_isSnailSo 122 = .ok (.iadd, 1) := by decide +kernel
theorem dL_isSnailSo_123 : decode cL_isSnailSo 123 = .ok (.istore 4, 2) := by decide +kernel
theorem dL_isSnailSo_125 : decode cL_isSnailSo 125 = .ok (.iinc 6 1, 3) := by decide +kernel
theorem dL_isSnailSo_128 : decode cL_isSnailSo 128 = .ok (.goto (-49), 3) := by decide +kernel
theorem dL_isSnailSo_131 : decode cL_isSnailSo 131 = .ok (.iload 5, 2) := by decide +kernel
theorem dL_isSnailSo_133 : decode cL_isSnailSo 133 = .ok (.ifCond .eq 60, 3) := by decide +kernel
theorem dL_isSnailSo_136 : decode cL_isSnailSo 136 = .ok (.iload_n 3, 1) := by decide +kernel
theorem dL_isSnailSo_137 : decode cL_isSnailSo 137 = .ok (.iconst 1, 1) := by decide +kernel
theorem dL_isSnailSo_138 : decode cL_isSnailSo 138 = .ok (.if_icmp .ne 55, 3) := by decide +kernel
theorem dL_isSnailSo_141 : decode cL_isSnailSo 141 = .ok (.iload 4, 2) := by decide +kernel
theorem dL_isSnailSo_143 : decode cL_isSnailSo 143 = .ok (.iconst 1, 1) := by decide +kernel
theorem dL_isSnailSo_144 : decode cL_isSnailSo 144 = .ok (.if_icmp .ne 49, 3) := by decide +kernel
theorem dL_isSnailSo_147 : decode cL_isSnailSo 147 = .ok (.aload_n 0, 1) := by decide +kernel
theorem dL_isSnailSo_148 : decode cL_isSnailSo 148 = .ok (.iload_n 1, 1) := by decide +kernel
theorem dL_isSnailSo_149 : decode cL_isSnailSo 149 = .ok (.invokevirtual 56, 3) := by decide +kernel
theorem dL_isSnailSo_152 : decode cL_isSnailSo 152 = .ok (.ifCond .lt 41, 3) := by decide +kernel
theorem dL_isSnailSo_155 : decode cL_isSnailSo 155 = .ok (.aload_n 0, 1) := by decide +kernel
theorem dL_isSnailSo_156 : decode cL_isSnailSo 156 = .ok (.iload_n 1, 1) := by decide +kernel
theorem dL_isSnailSo_157 : decode cL_isSnailSo 157 = .ok (.invokevirtual 56, 3) := by decide +kernel
theorem dL_isSnailSo_160 : decode cL_isSnailSo 160 = .ok (.bipush 17, 2) := by decide +kernel
theorem dL_isSnailSo_162 : decode cL_isSnailSo 162 = .ok (.if_icmp .ge 31, 3) := by decide +kernel
theorem dL_isSnailSo_165 : decode cL_isSnailSo 165 = .ok (.aload_n 0, 1) := by decide +kernel
theorem dL_isSnailSo_166 : decode cL_isSnailSo 166 = .ok (.iload_n 1, 1) := by decide +kernel
theorem dL_isSnailSo_167 : decode cL_isSnailSo 167 = .ok (.invokevirtual 103, 3) := by decide +kernel
theorem dL_isSnailSo_170 : decode cL_isSnailSo 170 = .ok (.ldc2_w 107, 3) := by decide +kernel
theorem dL_isSnailSo_173 : decode cL_isSnailSo 173 = .ok (.dcmp .l, 1) := by decide +kernel
theorem dL_isSnailSo_174 : decode cL_isSnailSo 174 = .ok (.ifCond .lt 19, 3) := by decide +kernel
theorem dL_isSnailSo_177 : decode cL_isSnailSo 177 = .ok (.aload_n 0, 1) := by decide +kernel
theorem dL_isSnailSo_178 : decode cL_isSnailSo 178 = .ok (.iload_n 1, 1) := by decide +kernel
theorem dL_isSnailSo_179 : decode cL_isSnailSo 179 = .ok (.invokevirtual 103, 3) := by decide +kernel
theorem dL_isSnailSo_182 : decode cL_isSnailSo 182 = .ok (.ldc2_w 109, 3) := by decide +kernel
theorem dL_isSnailSo_185 : decode cL_isSnailSo 185 = .ok (.dcmp .g, 1) := by decide +kernel
theorem dL_isSnailSo_186 : decode cL_isSnailSo 186 = .ok (.ifCond .gt 7, 3) := by decide +kernel
theorem dL_isSnailSo_189 : decode cL_isSnailSo 189 = .ok (.iconst 1, 1) := by decide +kernel
theorem dL_isSnailSo_190 : decode cL_isSnailSo 190 = .ok (.goto 4, 3) := by decide +kernel
theorem dL_isSnailSo_193 : decode cL_isSnailSo 193 = .ok (.iconst 0, 1) := by decide +kernel
theorem dL_isSnailSo_194 : decode cL_isSnailSo 194 = .ok (.istore 5, 2) := by decide +kernel
theorem dL_isSnailSo_196 : decode cL_isSnailSo 196 = .ok (.iload 5, 2) := by decide +kernel
theorem dL_isSnailSo_198 : decode cL_isSnailSo 198 = .ok (.ifCond .eq 69, 3) := by decide +kernel
theorem dL_isSnailSo_201 : decode cL_isSnailSo 201 = .ok (.aload_n 0, 1) := by decide +kernel
theorem dL_isSnailSo_202 : decode cL_isSnailSo 202 = .ok (.iload_n 1, 1) := by decide +kernel
theorem dL_isSnailSo_203 : decode cL_isSnailSo 203 = .ok (.invokevirtual 27, 3) := by decide +kernel
theorem dL_isSnailSo_206 : decode cL_isSnailSo 206 = .ok (.aload_n 0, 1) := by decide +kernel
theorem dL_isSnailSo_207 : decode cL_isSnailSo 207 = .ok (.iload_n 1, 1) := by decide +kernel
theorem dL_isSnailSo_208 : decode cL_isSnailSo 208 = .ok (.invokevirtual 18, 3) := by decide +kernel
theorem dL_isSnailSo_211 : decode cL_isSnailSo 211 = .ok (.invokestatic 33, 3) := by decide +kernel
theorem dL_isSnailSo_214 : decode cL_isSnailSo 214 = .ok (.aload_n 0, 1) := by decide +kernel
theorem dL_isSnailSo_215 : decode cL_isSnailSo 215 = .ok (.iload_n 1, 1) := by decide +kernel
theorem dL_isSnailSo_216 : decode cL_isSnailSo 216 = .ok (.invokevirtual 85, 3) := by decide +kernel
theorem dL_isSnailSo_219 : decode cL_isSnailSo 219 = .ok (.isub, 1) := by decide +kernel
theorem dL_isSnailSo_220 : decode cL_isSnailSo 220 = .ok (.if_icmp .lt 47, 3) := by decide +kernel
theorem dL_isSnailSo_223 : decode cL_isSnailSo 223 = .ok (.aload_n 0, 1) := by decide +kernel
theorem dL_isSnailSo_224 : decode cL_isSnailSo 224 = .ok (.aload_n 0, 1) := by decide +kernel
theorem dL_isSnailSo_225 : decode cL_isSnailSo 225 = .ok (.invokevirtual 111, 3) := by decide +kernel
theorem dL_isSnailSo_228 : decode cL_isSnailSo 228 = .ok (.invokevirtual 18, 3) := by decide +kernel
theorem dL_isSnailSo_231 : decode cL_isSnailSo 231 = .ok (.aload_n 0, 1) := by decide +kernel
theorem dL_isSnailSo_232 : decode cL_isSnailSo 232 = .ok (.iload_n 1, 1) := by decide +kernel
theorem dL_isSnailSo_233 : decode cL_isSnailSo 233 = .ok (.invokevirtual 18, 3) := by decide +kernel
theorem dL_isSnailSo_236 : decode cL_isSnailSo 236 = .ok (.if_icmp .lt 31, 3) := by decide +kernel
theorem dL_isSnailSo_239 : decode cL_isSnailSo 239 = .ok (.aload_n 0, 1) := by decide +kernel
theorem dL_isSnailSo_240 : decode cL_isSnailSo 240 = .ok (.aload_n 0, 1) := by decide +kernel
theorem dL_isSnailSo_241 : decode cL_isSnailSo 241 = .ok (.invokevirtual 111, 3) := by decide +kernel
theorem dL_isSnailSo_244 : decode cL_isSnailSo 244 = .ok (.invokevirtual 18, 3) := by decide +kernel
theorem dL_isSnailSo_247 : decode cL_isSnailSo 247 = .ok (.aload_n 0, 1) := by decide +kernel
theorem dL_isSnailSo_248 : decode cL_isSnailSo 248 = .ok (.iload_n 1, 1) := by decide +kernel
theorem dL_isSnailSo_249 : decode cL_isSnailSo 249 = .ok (.invokevirtual 18, 3) := by decide +kernel
theorem dL_isSnailSo_252 : decode cL_isSnailSo 252 = .ok (.if_icmp .gt 11, 3) := by decide +kernel
theorem dL_isSnailSo_255 : decode cL_isSnailSo 255 = .ok (.aload_n 0, 1) := by decide +kernel
theorem dL_isSnailSo_256 : decode cL_isSnailSo 256 = .ok (.invokevirtual 111, 3) := by decide +kernel
theorem dL_isSnailSo_259 : decode cL_isSnailSo 259 = .ok (.iload_n 1, 1) := by decide +kernel
theorem dL_isSnailSo_260 : decode cL_isSnailSo 260 = .ok (.if_icmp .gt 7, 3) := by decide +kernel
theorem dL_isSnailSo_263 : decode cL_isSnailSo 263 = .ok (.iconst 1, 1) := by decide +kernel
theorem dL_isSnailSo_264 : decode cL_isSnailSo 264 = .ok (.goto 4, 3) := by decide +kernel
theorem dL_isSnailSo_267 : decode cL_isSnailSo 267 = .ok (.iconst 0, 1) := by decide +kernel
theorem dL_isSnailSo_268 : decode cL_isSnailSo 268 = .ok (.ireturn, 1) := by decide +kernel
theorem dL_law_0 : decode cL_law 0 = .ok (.new 19, 3) := by decide +kernel
theorem dL_law_3 : decode cL_law 3 = .ok (.dup, 1) := by decide +kernel
theorem dL_law_4 : decode cL_law 4 = .ok (.invokespecial 114, 3) := by decide +kernel
theorem dL_law_7 : decode cL_law 7 = .ok (.astore_n 1, 1) := by decide +kernel
theorem dL_law_8 : decode cL_law 8 = .ok (.iconst 0, 1) := by decide +kernel
theorem dL_law_9 : decode cL_law 9 = .ok (.istore_n 2, 1) := by decide +kernel
theorem dL_law_10 : decode cL_law 10 = .ok (.iload_n 2, 1) := by decide +kernel
theorem dL_law_11 : decode cL_law 11 = .ok (.bipush 52, 2) := by decide +kernel
theorem dL_law_13 : decode cL_law 13 = .ok (.if_icmp .ge 66, 3) := by decide +kernel
theorem dL_law_16 : decode cL_law 16 = .ok (.aload_n 0, 1) := by decide +kernel
theorem dL_law_17 : decode cL_law 17 = .ok (.iload_n 2, 1) := by decide +kernel
theorem dL_law_18 : decode cL_law 18 = .ok (.invokestatic 115, 3) := by decide +kernel
theorem dL_law_21 : decode cL_law 21 = .ok (.istore_n 3, 1) := by decide +kernel
theorem dL_law_22 : decode cL_law 22 = .ok (.aload_n 0, 1) := by decide +kernel
theorem dL_law_23 : decode cL_law 23 = .ok (.iload_n 2, 1) := by decide +kernel
theorem dL_law_24 : decode cL_law 24 = .ok (.bipush 12, 2) := by decide +kernel
theorem dL_law_26 : decode cL_law 26 = .ok (.iadd, 1) := by decide +kernel
theorem dL_law_27 : decode cL_law 27 = .ok (.invokestatic 115, 3) := by decide +kernel
theorem dL_law_30 : decode cL_law 30 = .ok (.istore 4, 2) := by decide +kernel
theorem dL_law_32 : decode cL_law 32 = .ok (.aload_n 1, 1) := by decide +kernel
theorem dL_law_33 : decode cL_law 33 = .ok (.iload_n 3, 1) := by decide +kernel
theorem dL_law_34 : decode cL_law 34 = .ok (.iload 4, 2) := by decide +kernel
theorem dL_law_36 : decode cL_law 36 = .ok (.invokestatic 119, 3) := by decide +kernel
theorem dL_law_39 : decode cL_law 39 = .ok (.ifCond .eq 32, 3) := by decide +kernel
theorem dL_law_42 : decode cL_law 42 = .ok (.aload_n 1, 1) := by decide +kernel
theorem dL_law_43 : decode cL_law 43 = .ok (.iload_n 3, 1) := by decide +kernel
theorem dL_law_44 : decode cL_law 44 = .ok (.iconst 4, 1) := by decide +kernel
theorem dL_law_45 : decode cL_law 45 = .ok (.ishr, 1) := by decide +kernel
theorem dL_law_46 : decode cL_law 46 = .ok (.iconst 3, 1) := by decide +kernel
theorem dL_law_47 : decode cL_law 47 = .ok (.invokestatic 8, 3) := by decide +kernel
theorem dL_law_50 : decode cL_law 50 = .ok (.invokestatic 122, 3) := by decide +kernel
theorem dL_law_53 : decode cL_law 53 = .ok (.ifCond .eq 18, 3) := by decide +kernel
theorem dL_law_56 : decode cL_law 56 = .ok (.aload_n 1, 1) := by decide +kernel
theorem dL_law_57 : decode cL_law 57 = .ok (.iload 4, 2) := by decide +kernel
theorem dL_law_59 : decode cL_law 59 = .ok (.iconst 2, 1) := by decide +kernel
theorem dL_law_60 : decode cL_law 60 = .ok (.ishr, 1) := by decide +kernel
theorem dL_law_61 : decode cL_law 61 = .ok (.iconst 4, 1) := by decide +kernel
theorem dL_law_62 : decode cL_law 62 = .ok (.invokestatic 8, 3) := by decide +kernel
theorem dL_law_65 : decode cL_law 65 = .ok (.invokestatic 122, 3) := by decide +kernel
theorem dL_law_68 : decode cL_law 68 = .ok (.ifCond .ne 5, 3) := by decide +kernel
theorem dL_law_71 : decode cL_law 71 = .ok (.iconst 0, 1) := by decide +kernel
theorem dL_law_72 : decode cL_law 72 = .ok (.ireturn, 1) := by decide +kernel
theorem dL_law_73 : decode cL_law 73 = .ok (.iinc 2 1, 3) := by decide +kernel
theorem dL_law_76 : decode cL_law 76 = .ok (.goto (-66), 3) := by decide +kernel
theorem dL_law_79 : decode cL_law 79 = .ok (.iconst 1, 1) := by decide +kernel
theorem dL_law_80 : decode cL_law 80 = .ok (.ireturn, 1) := by decide +kernel
end
section
/-! constructors: a world that grows, cell by cell -/
def sg0 : Sg := fun a b => if kd a = 0 ∧ b = 5 then 24 else 0
def ta0 : Sg := fun a b => if a = 1 ∧ b = 229 then 24 else 0
def IN (z : Nat) (cy : Nat → ClassId) : Nat → va_E := ent z cy sg0 ta0 0 0
/-- the cells below a as they were, e at a, behind it as they are at birth -/
def cut (I : Nat → va_E) (a : Nat) (e : va_E) (F : Nat → va_E) : Nat → va_E := fun k => if k < a then F k else if k = a then e else I k
theorem cut_lt {I F : Nat → va_E} {a k : Nat} {e : va_E} (h : k < a) : cut I a e F k = F k := if_pos h
theorem cut_eq {I F : Nat → va_E} {a : Nat} {e : va_E} : cut I a e F a = e := by unfold cut; rw [if_neg (Nat.lt_irrefl a), if_pos rfl]
theorem cut_gt {I F : Nat → va_E} {a k : Nat} {e : va_E} (h : a < k) : cut I a e F k = I k := by unfold cut; rw [if_neg (by omega), if_neg (by omega)]
def GW (D : va_G) (z n : Nat) (f : Nat → va_E) (H : Heap) : Prop := H.size = z + n ∧ va_P D vwCl (mwl z n f) H
theorem GW.cg {D : va_G} {z n : Nat} {f g : Nat → va_E} {H : Heap} (h : GW D z n f H) (hf : ∀ k, k < n → f k = g k) : GW D z n g H := ⟨h.1, by rw [← mwl_congr hf]; exact h.2⟩
/-- a child's cells are the parent's behind it -/
theorem GW.up {D : va_G} {z n n' a : Nat} {I F : Nat → va_E} {e : va_E} {H : Heap} (h : GW D z n' (cut I n (I n) (cut I a e F)) H) (ha : a < n) : GW D z n' (cut I a e F) H := by
  refine h.cg fun k hk => ?_
  by_cases c : k < n
  · exact cut_lt c
  · rw [cut_gt (I := I) (F := F) (show a < k by omega)]
    by_cases c2 : k = n
    · subst c2; exact cut_eq
    · exact cut_gt (by omega)
def PreC (D : va_G) (cy : Nat → ClassId) (z a : Nat) (f : Nat → va_E) : Array Value → State → Prop := va_Pc [.ref (z + a)] (fun U => GW D z (a + 1) f U.heap ∧ Amb D cy z U U.heap)
theorem PreC.blind {D : va_G} {cy : Nat → ClassId} {z a : Nat} {f : Nat → va_E} : FrameBlind (PreC D cy z a f) := by
  intro a U g mk h
  obtain ⟨h1, h2, h3⟩ := h
  exact ⟨h1, h2, h3.same (U := U.calling g mk a) rfl⟩
def PoC (D : va_G) (z n : Nat) (f : Nat → va_E) : Array Value → State → Outcome → State → Prop := va_Qv (fun _ : Unit => True) (fun _ U => GW D z n f U.heap) (fun q => z ≤ q)
def KC (l : Launch) (y : MethodName) (bc : ByteArray) (f lo mc ms : Nat) (D : va_G) (cy : Nat → ClassId) (z a n : Nat) (e : va_E) (F : Nat → va_E) : Prop :=
  Met l y (.code y bc 1 none :: WA) { frames := f, cells := mc, slots := ms, locals := lo } (PreC D cy z a (cut (IN z cy) a e F)) (PoC D z n (cut (IN z cy) a (IN z cy a) F)) mc ms (fz z)
theorem metC_of {l : Launch} {y : MethodName} {bc : ByteArray} {rm : Room} {D : va_G} {cy : Nat → ClassId} {z a : Nat} {f : Nat → va_E} {Qc : Array Value → State → Outcome → State → Prop} {mc ms : Nat} (own : String) (hy : plainFor y = true) (ho : y.cls = own)
    (body : ∀ p e s m args below meth c, Bd p s m args meth c bc 1 none own D cy z → meth.name = y.name → GW D z (a + 1) f s.heap → va_S (fz z) s.heap s.heap [] → z ≤ s.heap.size → ∀ ls : Array Slot, lv_has ls 1 [(0, .ref (z + a))] → W p l e rm s m args below meth c s.heap [] 0 0 (MQ below Qc args s mc ms (fz z)) (F0 m 0 ls [])) :
    Met l y (.code y bc 1 none :: WA) rm (PreC D cy z a f) Qc mc ms (fz z) := by
  refine met_body (cc := bc) (maxL := 1) (ret := none) hy rfl ?_
  intro p e s m args below meth c s₁ B hml hv
  obtain ⟨rfl, hG, hAm⟩ := hv
  have hts := atoms_spec (ws := .code y bc 1 none :: WA) B.pre
  have hown : s.vm.findClass own = some m.cls := by rw [← ho]; exact findClass_of_methodNamed B.named
  rw [lg_entry_eq]
  exact body p e s m [Value.ref (z + a)].toArray below meth c ⟨B.exec, B.bytes, B.returns, hml, hown, fun w h => hts w (List.mem_cons_of_mem _ h), B.notSynchronized, hAm⟩ (name_of_methodNamed B.named B.method).1 hG va_S.rf (by rw [hG.1]; omega) _ (lv_entry [.ref (z + a)] (Nat.le_of_ble_eq_true rfl))
section RowsC
variable {p : Program} {l : Launch} {e : Env} {Rm : Room} {s : State} {m : MethodId} {args : Array Value} {below : List Frame} {meth : Method} {c : Code} {H : Heap} {locs : List Loc} {cells slots : Nat} {Q : State → Prop}
variable {cc : ByteArray} {nl : Nat} {rt : Option FieldType} {own : String} {D : va_G} {cy : Nat → ClassId} {z n a : Nat} {f F : Nat → va_E} {pc : Nat} {ls : Array Slot} {rest : List Value}
theorem GW.push {H1 : Heap} {x : va_E} {I : Nat → va_E} (h : GW D z n f H) (z1 : H1.size = z + n + 1) (o1 : ∀ q, q < z + n → H1[q]? = H[q]?) (hx : va_at D vwCl (z + n, x) H1) : GW D z (n + 1) (cut I n x f) H1 := by
  refine ⟨by omega, ?_⟩
  have hP1 : va_P D vwCl (mwl z n f) H1 := h.2.kept (fun k q hq => o1 q.1 (by rw [← h.1]; exact (h.2 k q hq).lt))
  intro k q hq
  obtain ⟨hk, rfl⟩ := mwl_of hq
  by_cases c : k < n
  · rw [cut_lt c]
    exact hP1 k _ (mwl_at c)
  · have : k = n := by omega
    subst this
    rw [cut_eq]
    exact hx
theorem c_new (C : Bd p s m args meth c cc nl rt own D cy z) (hG : GW D z n f H) (hS : va_S (fz z) s.heap H locs) {ci N idx : Nat} {R : String} {T : u_T} {ty0 : Nat → FieldType} {fs : List Value} (hc : vwCl[ci]? = some (R, T, N)) (hin : ∀ w ∈ u_ws R T N, w ∈ WA) (hty : ∀ k, k < N → parseFieldDescriptor (T k).2.2.1 = some (ty0 k))
    (hlk : Cond.classLink own idx R ∈ WA) (hinst : Cond.instantiable R N ∈ WA) (hini : Cond.initialized R ∈ WA) (hfs : ∀ j, j < N → defaultValue (ty0 j) = vp_V fs j) (hcells : cells + 1 ≤ Rm.cells) (hslots : slots + N ≤ Rm.slots) (hdg : decode cc pc = .ok (.new idx, 3))
    (kk : ∀ H1 : Heap, GW D z (n + 1) (cut (IN z cy) n (.inr (ci, fs)) f) H1 → va_S (fz z) s.heap H1 locs → W p l e Rm s m args below meth c H1 locs (cells + 1) (slots + N) Q (F0 m (pc + 3) ls (.ref (z + n) :: rest))) : W p l e Rm s m args below meth c H locs cells slots Q (F0 m pc ls rest) := by
  obtain ⟨hx, hb, hr, hml, hown, hW, hlocks, hAm⟩ := C
  have hKn := hAm.1.1 ci _ hc
  refine W.newcK hx hb hown (hW _ hlk) (hW _ hinst) (hW _ hini) rfl hdg hcells hslots hKn.2.1 hG.1 fun H1 kC hkC e1 z1 o1 => ?_
  refine kk H1 (hG.push z1 o1 ⟨_, hc, (u_born ty0 hW hin hKn hkC e1 hty).to hfs⟩) ⟨by have := hS.1; rw [hG.1] at this; omega, fun x h1 h2 => (o1 x ?_).trans (hS.2.1 x h1 h2), hS.2.2⟩
  have := hS.1
  rw [hG.1] at this
  omega
theorem c_newa {I : Nat → va_E} (C : Bd p s m args meth c cc nl rt own D cy z) (hG : GW D z n f H) (hS : va_S (fz z) s.heap H locs) {at0 : ArrayType} {ty : FieldType} (harr : Cond.arrayClass ty ∈ WA) (hty : newarray.typeOf at0 = ty) {t0 N : Nat} {v : Int32} {x : vp_A} (ht : (tyc cy)[t0]? = some (cy t0, ty)) (hra : va_RA s (cy t0) ty → s.vm.findClass ("[" ++ ty.toString) = some (cy t0)) (hxa : vp_cell (cy t0) x = arrV (cy t0) N (fun _ => defaultValue ty)) (hn : ¬ v < 0) (hN : v.toNatClampNeg = N) (hbytes : N * componentBytes ty ≤ 536870912) (hcells : cells + 1 ≤ Rm.cells) (hslots : slots + N ≤ Rm.slots) (hdg : decode cc pc = .ok (.newarray at0, 2))
    (kk : ∀ H1 : Heap, GW D z (n + 1) (cut I n (.inl (cy t0, x)) f) H1 → va_S (fz z) s.heap H1 locs → W p l e Rm s m args below meth c H1 locs (cells + 1) (slots + N) Q (F0 m (pc + 2) ls (.ref (z + n) :: rest))) : W p l e Rm s m args below meth c H locs cells slots Q (F0 m pc ls (.int v :: rest)) := by
  obtain ⟨hx, hb, hr, hml, hown, hW, hlocks, hAm⟩ := C
  subst hty
  refine va_newaK hx hb (hW _ harr) rfl hdg rfl hn hN hbytes hcells hslots hG.1 fun H1 cA e1 z1 o1 hAr hNm => ?_
  have hcy := hra (hAm.1.2 t0 _ ht).2
  have hcA : cA = cy t0 := Option.some.inj (hNm.symm.trans hcy)
  subst hcA
  refine kk H1 (hG.push z1 o1 ?_) ⟨by have := hS.1; rw [hG.1] at this; omega, fun x h1 h2 => (o1 x ?_).trans (hS.2.1 x h1 h2), hS.2.2⟩
  · show H1[z + n]? = some (vp_cell _ _)
    rw [hxa]
    exact e1
  · have := hS.1
    rw [hG.1] at this
    omega
theorem GW.set {H1 : Heap} {x y : va_E} {I : Nat → va_E} (h : GW D z n (cut I a x F) H) (ha : a < n) (z1 : H1.size = H.size) (o1 : ∀ q, q ≠ z + a → H1[q]? = H[q]?) (hy : va_at D vwCl (z + a, y) H1) : GW D z n (cut I a y F) H1 := by
  refine ⟨by rw [z1]; exact h.1, ?_⟩
  intro k q hq
  obtain ⟨hk, rfl⟩ := mwl_of hq
  by_cases c : k = a
  · subst c
    rw [cut_eq]
    exact hy
  · have hP := h.2.kept (H1 := H) (fun _ _ _ => rfl)
    have h1 := va_P.kept (ws := [(z + k, cut I a x F k)]) (D := D) (cl := vwCl) (H := H) (H1 := H1) (fun i q hi => by
      cases i with
      | zero => cases hi; exact hP k _ (mwl_at hk)
      | succ i => simp at hi) (fun i q hi => by
      cases i with
      | zero => cases hi; exact o1 _ (by show z + k ≠ z + a; omega)
      | succ i => simp at hi)
    have h2 := h1 0 _ rfl
    have e : cut I a y F k = cut I a x F k := by
      by_cases c2 : k < a
      · rw [cut_lt c2, cut_lt c2]
      · rw [cut_gt (by omega), cut_gt (by omega)]
    rw [e]
    exact h2
theorem c_putF {I : Nat → va_E} {ci : Nat} {fs : List Value} (C : Bd p s m args meth c cc nl rt own D cy z) (hG : GW D z n (cut I a (.inr (ci, fs)) F) H) (hS : va_S (fz z) s.heap H locs) (ha : a < n) {N idx j : Nat} {R : String} {T : u_T} {ty0 : Nat → FieldType} {v : Value} {ty : FieldType} (hc : vwCl[ci]? = some (R, T, N)) (hin : ∀ w ∈ u_ws R T N, w ∈ WA) (hty : ∀ k, k < N → parseFieldDescriptor (T k).2.2.1 = some (ty0 k)) (hnm : ∀ a, a < N → ∀ b, b < N → a ≠ b → (T a).2.1 ≠ (T b).2.1) (hj : j < N) (hd1 : (T j).1 = R) (hfin : (T j).2.2.2 = true) (hmn : meth.name = "<init>") (hdecl : R = own) (hd : parseFieldDescriptor (T j).2.2.1 = some ty) (hn : narrow ty v = v) (hfit : fits ty v = true)
    (hl : Cond.fieldLink own idx R (T j).2.1 (T j).2.2.1 ∈ WA) (hjl : j < fs.length) (hdg : decode cc pc = .ok (.putfield idx, 3))
    (kk : ∀ (H1 : Heap) (locs1 : List Loc), GW D z n (cut I a (.inr (ci, fs.set j v)) F) H1 → va_S (fz z) s.heap H1 locs1 → W p l e Rm s m args below meth c H1 locs1 cells slots Q (F0 m (pc + 3) ls rest)) : W p l e Rm s m args below meth c H locs cells slots Q (F0 m pc ls (v :: .ref (z + a) :: rest)) := by
  obtain ⟨hx, hb, hr, hml, hown, hW, hlocks, hAm⟩ := C
  have hap := va_apart (own := own) hW hin ty0 hty hnm hAm.1 hc
  obtain ⟨r, h1, cell, q1, q2, q3, q4⟩ := hG.2 a (z + a, .inr (ci, fs)) (by rw [mwl_at ha, cut_eq])
  have hr9 : r = (R, T, N) := Option.some.inj (h1.symm.trans hc)
  subst hr9
  obtain ⟨hS0, hfc, kC, hkC, hkind⟩ := hAm.1.1 ci _ hc
  obtain ⟨cf, kf, fi, f9, hi, hsl⟩ := hS0 j hj
  have hlay := hW _ (hin _ (u_in_lay hj))
  unfold u_lay at hlay
  rw [if_pos hfin] at hlay
  have hst := (u_facts hfc hkC (u_lays hW hin hj) hi).1
  have hcf : m.cls = cf := by
    obtain ⟨_, _, c', _, _, _, -, -, hf', -, -, -, hown2, -⟩ := Cond.laysFinal_spec hlay
    have e1 : c' = cf := by have := hi.symm.trans hf'; simp at this; exact this.1.symm
    rw [hd1, hdecl] at hown2
    rw [← e1]
    exact Option.some.inj (hown.symm.trans hown2)
  have h6 := u_fits hfc hkC hkind (Or.inr hlay) hi hd hn hfit
  refine W.putFinK hx hb hown (hW _ hl) (by rw [hd1] at hi; exact hi) hst hcf hmn (by rw [q2]; exact h6) q1 q3 (by rw [hsl]; exact k2_hasslot (q4 j hj)) rfl rfl hdg fun H' e1 e2 e3 => ?_
  rw [hsl] at e1 ⊢
  exact kk H' _ (hG.set ha e2 e3 ⟨_, hc, t_OB.to (V := updV (vp_V fs) j v) ⟨_, e1, q2, q3, t_set q4 hap hj v⟩ (fun i _ => vp_updV_set hjl v i)⟩) (hS.put e2 e3 (Nat.le_add_right _ _))
theorem c_put {I : Nat → va_E} {ci : Nat} {fs : List Value} (C : Bd p s m args meth c cc nl rt own D cy z) (hG : GW D z n (cut I a (.inr (ci, fs)) F) H) (hS : va_S (fz z) s.heap H locs) (ha : a < n) {N idx j : Nat} {R : String} {T : u_T} {ty0 : Nat → FieldType} {v : Value} {ty : FieldType} (hc : vwCl[ci]? = some (R, T, N)) (hin : ∀ w ∈ u_ws R T N, w ∈ WA) (hty : ∀ k, k < N → parseFieldDescriptor (T k).2.2.1 = some (ty0 k)) (hnm : ∀ a, a < N → ∀ b, b < N → a ≠ b → (T a).2.1 ≠ (T b).2.1) (hj : j < N) (hd1 : (T j).1 = R) (hfin : (T j).2.2.2 = false) (hd : parseFieldDescriptor (T j).2.2.1 = some ty) (hn : narrow ty v = v) (hfit : fits ty v = true)
    (hl : Cond.fieldLink own idx R (T j).2.1 (T j).2.2.1 ∈ WA) (hjl : j < fs.length) (hdg : decode cc pc = .ok (.putfield idx, 3))
    (kk : ∀ (H1 : Heap) (locs1 : List Loc), GW D z n (cut I a (.inr (ci, fs.set j v)) F) H1 → va_S (fz z) s.heap H1 locs1 → W p l e Rm s m args below meth c H1 locs1 cells slots Q (F0 m (pc + 3) ls rest)) : W p l e Rm s m args below meth c H locs cells slots Q (F0 m pc ls (v :: .ref (z + a) :: rest)) := by
  obtain ⟨hx, hb, hr, hml, hown, hW, hlocks, hAm⟩ := C
  have hap := va_apart (own := own) hW hin ty0 hty hnm hAm.1 hc
  obtain ⟨r, h1, cell, q1, q2, q3, q4⟩ := hG.2 a (z + a, .inr (ci, fs)) (by rw [mwl_at ha, cut_eq])
  have hr9 : r = (R, T, N) := Option.some.inj (h1.symm.trans hc)
  subst hr9
  obtain ⟨hS0, hfc, kC, hkC, hkind⟩ := hAm.1.1 ci _ hc
  obtain ⟨cf, kf, fi, f9, hi, hsl⟩ := hS0 j hj
  have hlay := hW _ (hin _ (u_in_lay hj))
  unfold u_lay at hlay
  rw [if_neg (by rw [hfin]; decide)] at hlay
  have hst := (u_facts hfc hkC (u_lays hW hin hj) hi).1
  have h6 := u_store hfc hkC hkind hlay hi hd hn hfit
  refine W.putK hx hb (f := f9) ⟨hown, hW _ hl, ⟨_, _, _, (by rw [hd1] at hi; exact hi)⟩, hst⟩ (by rw [q2]; exact h6) q1 q3 (by rw [hsl]; exact k2_hasslot (q4 j hj)) rfl rfl hdg fun H' e1 e2 e3 => ?_
  rw [hsl] at e1 ⊢
  exact kk H' _ (hG.set ha e2 e3 ⟨_, hc, t_OB.to (V := updV (vp_V fs) j v) ⟨_, e1, q2, q3, t_set q4 hap hj v⟩ (fun i _ => vp_updV_set hjl v i)⟩) (hS.put e2 e3 (Nat.le_add_right _ _))
theorem c_runN (C : Bd p s m args meth c cc nl rt own D cy z) {y : MethodName} {bc : ByteArray} {f1 lo mc ms n' idx : Nat} {x : va_E} (hM : KC l y bc f1 lo mc ms D cy z n n' x F) (hG : GW D z (n + 1) (cut (IN z cy) n x F) H) (hS : va_S (fz z) s.heap H locs) (hl : Cond.methodLinkNest own idx y "QuadSnail" ∈ nestW) (hini : Cond.initialized y.cls ∈ WA) (hinst : Cond.instanceMethod y ∈ WA) (hcode : Cond.code y bc 1 none ∈ WA) (hyn : y.name = "<init>") (hok : yOK y 0)
    (hR : f1 + 1 ≤ Rm.frames ∧ 8 + (1 + 11) + lo ≤ Rm.locals) (hrest : (rest.map fun v => v.category).sum ≤ 8) (hsz : ls.size = nl) (hcs : cells + mc ≤ Rm.cells ∧ slots + ms ≤ Rm.slots) (hdg : decode cc pc = .ok (.invokespecial idx, 3))
    (kk : ∀ (H1 : Heap) (locs1 : List Loc), GW D z n' (cut (IN z cy) n (IN z cy n) F) H1 → va_S (fz z) s.heap H1 locs1 → W p l e Rm s m args below meth c H1 locs1 (cells + mc) (slots + ms) Q (F0 m (pc + 3) ls rest)) : W p l e Rm s m args below meth c H locs cells slots Q (F0 m pc ls (.ref (z + n) :: rest)) := by
  obtain ⟨hx, hb, hr, hml, hown, hW, hlocks, hAm⟩ := C
  refine va_callv (va_runIN (As := []) (rest := rest) (b := z + n) ⟨hx, hb, hml, hown, hW⟩ hM ⟨va_cnB 0 hW (wa_cons hcode) rfl rfl rfl (hAm.2.1 _ hl) (hW _ hini) hok hR, hyn, hW _ hinst⟩ ⟨PreC.blind, fun U hU hW' => ⟨rfl, by rw [hU]; exact hG, hAm.warm hW' (by rw [hU]; exact hS.2.1)⟩⟩ rfl rfl hsz rfl (lv_room hrest) hdg hcs) hS (fun _ _ h => h) (fun _ h => h) (fun u t H1 locs1 ht hvm hpost hB hz hk1 hS1 => ?_)
  rw [ht] at hB
  exact kk H1 locs1 hB hS1
theorem c_runI (C : Bd p s m args meth c cc nl rt own D cy z) {y : MethodName} {bc : ByteArray} {f1 lo mc ms n' idx : Nat} {x : va_E} (hM : KC l y bc f1 lo mc ms D cy z n n' x F) (hG : GW D z (n + 1) (cut (IN z cy) n x F) H) (hS : va_S (fz z) s.heap H locs) (hl : Cond.methodLink own idx y ∈ WA) (hini : Cond.initialized y.cls ∈ WA) (hinst : Cond.instanceMethod y ∈ WA) (hcode : Cond.code y bc 1 none ∈ WA) (hyn : y.name = "<init>") (hok : yOK y 0)
    (hR : f1 + 1 ≤ Rm.frames ∧ 8 + (1 + 11) + lo ≤ Rm.locals) (hrest : (rest.map fun v => v.category).sum ≤ 8) (hsz : ls.size = nl) (hcs : cells + mc ≤ Rm.cells ∧ slots + ms ≤ Rm.slots) (hdg : decode cc pc = .ok (.invokespecial idx, 3))
    (kk : ∀ (H1 : Heap) (locs1 : List Loc), GW D z n' (cut (IN z cy) n (IN z cy n) F) H1 → va_S (fz z) s.heap H1 locs1 → W p l e Rm s m args below meth c H1 locs1 (cells + mc) (slots + ms) Q (F0 m (pc + 3) ls rest)) : W p l e Rm s m args below meth c H locs cells slots Q (F0 m pc ls (.ref (z + n) :: rest)) := by
  obtain ⟨hx, hb, hr, hml, hown, hW, hlocks, hAm⟩ := C
  refine va_callv (va_runI (As := []) (rest := rest) (b := z + n) ⟨hx, hb, hml, hown, hW⟩ hM (cwI 0 hW (wa_cons hcode) rfl rfl rfl (hW _ hini) (hW _ hl) (hW _ hinst) hyn hok hR) ⟨PreC.blind, fun U hU hW' => ⟨rfl, by rw [hU]; exact hG, hAm.warm hW' (by rw [hU]; exact hS.2.1)⟩⟩ rfl rfl hsz rfl (lv_room hrest) hdg hcs) hS (fun _ _ h => h) (fun _ h => h) (fun u t H1 locs1 ht hvm hpost hB hz hk1 hS1 => ?_)
  rw [ht] at hB
  exact kk H1 locs1 hB hS1
theorem c_ret (C : Bd p s m args meth c cc nl none own D cy z) (hG : GW D z n f H) (hS : va_S (fz z) s.heap H locs) (hf : ∀ k, k < n → f k = F k) (hdg : decode cc pc = .ok (.return_, 1)) : W p l e Rm s m args below meth c H locs cells slots (MQ below (PoC D z n F) args s cells slots (fz z)) (F0 m pc ls []) := by
  obtain ⟨hx, hb, hr, hml, hown, hW, hlocks, hAm⟩ := C
  exact W.vret hx hb hr (fun t ht hW => ⟨⟨(), rfl, trivial, by show GW D z n F t.heap; rw [ht]; exact hG.cg hf⟩, hS.F ht⟩) hS.2.2 hdg hlocks
theorem c_get {I : Nat → va_E} {ci : Nat} {fs : List Value} (C : Bd p s m args meth c cc nl rt own D cy z) (hG : GW D z n (cut I a (.inr (ci, fs)) F) H) (ha : a < n) {N idx j : Nat} {R : String} {T : u_T} {v : Value} (hc : vwCl[ci]? = some (R, T, N)) (hin : ∀ w ∈ u_ws R T N, w ∈ WA) (hj : j < N) (hd1 : (T j).1 = R)
    (hl : Cond.fieldLink own idx R (T j).2.1 (T j).2.2.1 ∈ WA) (hv : fs[j]? = some v) (hdg : decode cc pc = .ok (.getfield idx, 3)) (kk : W p l e Rm s m args below meth c H locs cells slots Q (F0 m (pc + 3) ls (v :: rest))) : W p l e Rm s m args below meth c H locs cells slots Q (F0 m pc ls (.ref (z + a) :: rest)) := by
  obtain ⟨hx, hb, hr, hml, hown, hW, hlocks, hAm⟩ := C
  exact va_get (D := D) (ci := ci) (v := v) (C := R) (T := T) (N := N) hx hb hW hin hown hAm.1 hG.2 a (by rw [mwl_at ha, cut_eq]) hc j hj (hW _ hl) (fun x h => by rw [hd1] at h; exact h) hv hdg kk
theorem c_iast (C : Bd p s m args meth c cc nl rt own D cy z) (hG : GW D z n f H) (hS : va_S (fz z) s.heap H locs) {k N : Nat} {g : Nat → Int32} {i x : Int32} (hk : k < n) (he : f k = .inl (cy 0, N, .inl g)) (hin : vp_in i N) (hdg : decode cc pc = .ok (.iastore, 1))
    (kk : ∀ (H1 : Heap) (locs1 : List Loc), GW D z n (fun j => if j = k then .inl (cy 0, N, .inl (upd g i.toNatClampNeg x)) else f j) H1 → va_S (fz z) s.heap H1 locs1 → W p l e Rm s m args below meth c H1 locs1 cells slots Q (F0 m (pc + 1) ls rest)) : W p l e Rm s m args below meth c H locs cells slots Q (F0 m pc ls (.int x :: .int i :: .ref (z + k) :: rest)) := by
  obtain ⟨hx, hb, hr, hml, hown, hW, hlocks, hAm⟩ := C
  have ha : (mwl z n f)[k]? = some (z + k, .inl (cy 0, N, .inl g)) := by rw [mwl_at hk, he]
  refine W.iast hx hb (hG.2 k _ ha) ((hAm.1.2 0 _ rfl).1 N (fun j => .int (g j))) (fun q => by cases q) (by show ¬ (i < 0 ∨ (arrV _ _ _).slots.size ≤ _); rw [arrV_size]; exact hin) rfl rfl hdg fun H1 e z1 oq => ?_
  refine kk H1 _ ⟨by rw [z1]; exact hG.1, ?_⟩ (hS.put z1 oq (Nat.le_add_right _ _))
  have h2 := hG.2.set (e := .inl (cy 0, N, .inl (upd g i.toNatClampNeg x))) mwl_D ha ?_ oq
  · rw [mwl_set] at h2
    exact h2
  · show H1[z + k]? = some (vp_cell _ _)
    rw [e, vp_cell_i, vp_cell_i, arrV_store]
    congr 2
    funext q
    by_cases hq : q = i.toNatClampNeg
    · subst hq
      simp [updV, upd]
    · simp [updV, upd, hq]
end RowsC
end
section
theorem sg0_n {a b : Nat} (h : kd a ≠ 0) : sg0 a b = 0 := if_neg (fun q => h q.1)
theorem sg0_m {a b : Nat} (h : b ≠ 5) : sg0 a b = 0 := if_neg (fun q => h q.2)
theorem sg0_5 {a : Nat} (h : kd a = 0) : sg0 a 5 = 24 := if_pos ⟨h, rfl⟩
set_option maxHeartbeats 4000000 in
set_option maxRecDepth 100000 in
theorem k_X1_init (l : Launch) (D : va_G) (cy : Nat → ClassId) (z : Nat) {a n9 : Nat} (ha : kd a = 1) (hn9 : n9 = a + 2) (F : Nat → va_E) : KC l yX1_init cX1_init 1 12 1 48 D cy z a n9 (.inr (1, [.null, .int 0, .int 0])) F := by
  subst hn9
  refine metC_of RX1 (plainFor_of_name (by decide)) rfl ?_
  intro p e s m args below meth c C hmn hG hS hz ls hl
  obtain ⟨hx, hb, hr, hml, hown, hW, hlocks, hAm⟩ := id C
  refine lv_aload_n hx hb dX1_init_0 rfl (lv_at hl 0 rfl) ?_
  refine W.objInit hx hb hown (hW _ (mA1 (i := 39) rfl rfl)) (hW _ (mA1 (i := 20) rfl rfl)) (hW _ (mA1 (i := 21) rfl rfl)) rfl (by rw [hml]; exact hl.1) rfl dX1_init_1 (Nat.le_of_ble_eq_true rfl) (Nat.le_of_ble_eq_true rfl) ?_
  refine W.eq (g2 := F0 m 4 ls []) rfl ?_
  refine lv_aload_n hx hb dX1_init_4 rfl (lv_at hl 0 rfl) ?_
  refine lv_bipush (v := 48) hx hb dX1_init_5 (by decide) ?_
  refine c_newa (n := a + 1) (I := (IN z cy)) C hG hS (at0 := .int) (ty := .int) (mA1 (i := 52) rfl rfl) rfl (t0 := 0) (N := 48) (x := ((48, .inl (fun _ => 0)) : vp_A)) rfl (fun q => q) rfl (by decide) rfl (Nat.le_of_ble_eq_true rfl) (Nat.le_of_ble_eq_true rfl) (Nat.le_of_ble_eq_true rfl) dX1_init_7 (fun H hG hS => ?_)
  have hI : IN z cy (a + 1) = .inl (cy 0, ((48, .inl (fun _ => 0)) : vp_A)) := by
    rw [IN, ent_7 (kd1_1 ha)]
    rw [show sg0 (a + 1) = (fun _ => 0 : Nat → Int32) from funext fun b => sg0_n (by rw [kd1_1 ha]; decide)]
  rw [← hI] at hG
  have hG := hG.up (by omega)
  refine c_putF (I := (IN z cy)) C hG hS (by omega) (N := 3) (j := 0) (ty := tyX1 0) rfl inWX1 tyX1_ok nmX1 (by decide) rfl rfl hmn rfl (tyX1_ok 0 (by decide)) rfl rfl (mA1 (i := 40) rfl rfl) (by show 0 < 3; decide) dX1_init_9 (fun H locs hG hS => ?_)
  exact c_ret C hG hS (fun k _ => congrArg (fun x => cut (IN z cy) a x F k) (by rw [IN, ent_1 ha]; simp [sg0_n (show kd a ≠ 0 by rw [ha]; decide)])) dX1_init_12
set_option maxHeartbeats 4000000 in
set_option maxRecDepth 100000 in
theorem k_X4_init (l : Launch) (D : va_G) (cy : Nat → ClassId) (z : Nat) {a n9 : Nat} (ha : kd a = 4) (hn9 : n9 = a + 3) (F : Nat → va_E) : KC l yX4_init cX4_init 2 32 2 51 D cy z a n9 (.inr (4, [.null, .int 0, .int 0, .int 0, .int 0, .int 0, .int 0, .int 0, .int 0, .int 0, .int 0, .int 0])) F := by
  subst hn9
  refine metC_of RX4 (plainFor_of_name (by decide)) rfl ?_
  intro p e s m args below meth c C hmn hG hS hz ls hl
  obtain ⟨hx, hb, hr, hml, hown, hW, hlocks, hAm⟩ := id C
  refine lv_aload_n hx hb dX4_init_0 rfl (lv_at hl 0 rfl) ?_
  refine W.objInit hx hb hown (hW _ (mA1 (i := 33) rfl rfl)) (hW _ (mA1 (i := 20) rfl rfl)) (hW _ (mA1 (i := 21) rfl rfl)) rfl (by rw [hml]; exact hl.1) rfl dX4_init_1 (Nat.le_of_ble_eq_true rfl) (Nat.le_of_ble_eq_true rfl) ?_
  refine W.eq (g2 := F0 m 4 ls []) rfl ?_
  refine lv_aload_n hx hb dX4_init_4 rfl (lv_at hl 0 rfl) ?_
  refine c_new (n := a + 1) C hG hS (ci := 1) (R := RX1) (T := TX1) (N := 3) (ty0 := tyX1) (fs := [.null, .int 0, .int 0]) rfl inWX1 tyX1_ok (mA1 (i := 34) rfl rfl) (mA1 (i := 35) rfl rfl) (mA1 (i := 4) rfl rfl) (fun j hj => by rcases (show j = 0 ∨ j = 1 ∨ j = 2 by omega) with rfl | rfl | rfl <;> rfl) (Nat.le_of_ble_eq_true rfl) (Nat.le_of_ble_eq_true rfl) dX4_init_5 (fun H hG hS => ?_)
  refine lv_dup hx hb dX4_init_8 rfl ?_
  refine c_runN (n := a + 1) (n' := a + 3) C (k_X1_init l D cy z (kd4_1 ha) rfl _) hG hS (by unfold nestW; simp) (mA1 (i := 4) rfl rfl) (mA1 (i := 37) rfl rfl) (mA1 (i := 38) rfl rfl) rfl ⟨by decide +kernel, by decide +kernel, by decide +kernel⟩ ⟨(Nat.le_of_ble_eq_true rfl), (Nat.le_of_ble_eq_true rfl)⟩ (Nat.le_of_ble_eq_true rfl) hl.1 ⟨(Nat.le_of_ble_eq_true rfl), (Nat.le_of_ble_eq_true rfl)⟩ dX4_init_9 (fun H locs hG hS => ?_)
  have hG := hG.up (by omega)
  refine c_putF (I := (IN z cy)) C hG hS (by omega) (N := 12) (j := 0) (ty := tyX4 0) rfl inWX4 tyX4_ok nmX4 (by decide) rfl rfl hmn rfl (tyX4_ok 0 (by decide)) rfl rfl (mA1 (i := 53) rfl rfl) (by show 0 < 12; decide) dX4_init_12 (fun H locs hG hS => ?_)
  exact c_ret C hG hS (fun k _ => congrArg (fun x => cut (IN z cy) a x F k) (by rw [IN, ent_4 ha]; simp [sg0_n (show kd a ≠ 0 by rw [ha]; decide)])) dX4_init_15
set_option maxHeartbeats 4000000 in
set_option maxRecDepth 100000 in
theorem k_X0_init (l : Launch) (D : va_G) (cy : Nat → ClassId) (z : Nat) {a n9 : Nat} (ha : kd a = 0) (hn9 : n9 = a + 13) (F : Nat → va_E) : KC l yX0_init cX0_init 3 52 12 252 D cy z a n9 (.inr (0, [.null, .null, .null, .null, .int 0, .int 0])) F := by
  subst hn9
  refine metC_of RX0 (plainFor_of_name (by decide)) rfl ?_
  intro p e s m args below meth c C hmn hG hS hz ls hl
  obtain ⟨hx, hb, hr, hml, hown, hW, hlocks, hAm⟩ := id C
  refine lv_aload_n hx hb dX0_init_0 rfl (lv_at hl 0 rfl) ?_
  refine W.objInit hx hb hown (hW _ (mA1 (i := 27) rfl rfl)) (hW _ (mA1 (i := 20) rfl rfl)) (hW _ (mA1 (i := 21) rfl rfl)) rfl (by rw [hml]; exact hl.1) rfl dX0_init_1 (Nat.le_of_ble_eq_true rfl) (Nat.le_of_ble_eq_true rfl) ?_
  refine W.eq (g2 := F0 m 4 ls []) rfl ?_
  refine lv_aload_n hx hb dX0_init_4 rfl (lv_at hl 0 rfl) ?_
  refine c_new (n := a + 1) C hG hS (ci := 4) (R := RX4) (T := TX4) (N := 12) (ty0 := tyX4) (fs := [.null, .int 0, .int 0, .int 0, .int 0, .int 0, .int 0, .int 0, .int 0, .int 0, .int 0, .int 0]) rfl inWX4 tyX4_ok (mA1 (i := 28) rfl rfl) (mA1 (i := 29) rfl rfl) (mA1 (i := 3) rfl rfl) (fun j hj => by rcases (show j = 0 ∨ j = 1 ∨ j = 2 ∨ j = 3 ∨ j = 4 ∨ j = 5 ∨ j = 6 ∨ j = 7 ∨ j = 8 ∨ j = 9 ∨ j = 10 ∨ j = 11 by omega) with rfl | rfl | rfl | rfl | rfl | rfl | rfl | rfl | rfl | rfl | rfl | rfl <;> rfl) (Nat.le_of_ble_eq_true rfl) (Nat.le_of_ble_eq_true rfl) dX0_init_5 (fun H hG hS => ?_)
  refine lv_dup hx hb dX0_init_8 rfl ?_
  refine c_runN (n := a + 1) (n' := a + 4) C (k_X4_init l D cy z (kd0_1 ha) rfl _) hG hS (by unfold nestW; simp) (mA1 (i := 3) rfl rfl) (mA1 (i := 31) rfl rfl) (mA1 (i := 32) rfl rfl) rfl ⟨by decide +kernel, by decide +kernel, by decide +kernel⟩ ⟨(Nat.le_of_ble_eq_true rfl), (Nat.le_of_ble_eq_true rfl)⟩ (Nat.le_of_ble_eq_true rfl) hl.1 ⟨(Nat.le_of_ble_eq_true rfl), (Nat.le_of_ble_eq_true rfl)⟩ dX0_init_9 (fun H locs hG hS => ?_)
  have hG := hG.up (by omega)
  refine c_putF (I := (IN z cy)) C hG hS (by omega) (N := 6) (j := 0) (ty := tyX0 0) rfl inWX0 tyX0_ok nmX0 (by decide) rfl rfl hmn rfl (tyX0_ok 0 (by decide)) rfl rfl (mA1 (i := 102) rfl rfl) (by show 0 < 6; decide) dX0_init_12 (fun H locs hG hS => ?_)
  refine lv_aload_n hx hb dX0_init_15 rfl (lv_at hl 0 rfl) ?_
  refine c_new (n := a + 4) C hG hS (ci := 4) (R := RX4) (T := TX4) (N := 12) (ty0 := tyX4) (fs := [.null, .int 0, .int 0, .int 0, .int 0, .int 0, .int 0, .int 0, .int 0, .int 0, .int 0, .int 0]) rfl inWX4 tyX4_ok (mA1 (i := 28) rfl rfl) (mA1 (i := 29) rfl rfl) (mA1 (i := 3) rfl rfl) (fun j hj => by rcases (show j = 0 ∨ j = 1 ∨ j = 2 ∨ j = 3 ∨ j = 4 ∨ j = 5 ∨ j = 6 ∨ j = 7 ∨ j = 8 ∨ j = 9 ∨ j = 10 ∨ j = 11 by omega) with rfl | rfl | rfl | rfl | rfl | rfl | rfl | rfl | rfl | rfl | rfl | rfl <;> rfl) (Nat.le_of_ble_eq_true rfl) (Nat.le_of_ble_eq_true rfl) dX0_init_16 (fun H hG hS => ?_)
  refine lv_dup hx hb dX0_init_19 rfl ?_
  refine c_runN (n := a + 4) (n' := a + 7) C (k_X4_init l D cy z (kd0_4 ha) rfl _) hG hS (by unfold nestW; simp) (mA1 (i := 3) rfl rfl) (mA1 (i := 31) rfl rfl) (mA1 (i := 32) rfl rfl) rfl ⟨by decide +kernel, by decide +kernel, by decide +kernel⟩ ⟨(Nat.le_of_ble_eq_true rfl), (Nat.le_of_ble_eq_true rfl)⟩ (Nat.le_of_ble_eq_true rfl) hl.1 ⟨(Nat.le_of_ble_eq_true rfl), (Nat.le_of_ble_eq_true rfl)⟩ dX0_init_20 (fun H locs hG hS => ?_)
  have hG := hG.up (by omega)
  refine c_putF (I := (IN z cy)) C hG hS (by omega) (N := 6) (j := 1) (ty := tyX0 1) rfl inWX0 tyX0_ok nmX0 (by decide) rfl rfl hmn rfl (tyX0_ok 1 (by decide)) rfl rfl (mA1 (i := 103) rfl rfl) (by show 1 < 6; decide) dX0_init_23 (fun H locs hG hS => ?_)
  refine lv_aload_n hx hb dX0_init_26 rfl (lv_at hl 0 rfl) ?_
  refine c_new (n := a + 7) C hG hS (ci := 4) (R := RX4) (T := TX4) (N := 12) (ty0 := tyX4) (fs := [.null, .int 0, .int 0, .int 0, .int 0, .int 0, .int 0, .int 0, .int 0, .int 0, .int 0, .int 0]) rfl inWX4 tyX4_ok (mA1 (i := 28) rfl rfl) (mA1 (i := 29) rfl rfl) (mA1 (i := 3) rfl rfl) (fun j hj => by rcases (show j = 0 ∨ j = 1 ∨ j = 2 ∨ j = 3 ∨ j = 4 ∨ j = 5 ∨ j = 6 ∨ j = 7 ∨ j = 8 ∨ j = 9 ∨ j = 10 ∨ j = 11 by omega) with rfl | rfl | rfl | rfl | rfl | rfl | rfl | rfl | rfl | rfl | rfl | rfl <;> rfl) (Nat.le_of_ble_eq_true rfl) (Nat.le_of_ble_eq_true rfl) dX0_init_27 (fun H hG hS => ?_)
  refine lv_dup hx hb dX0_init_30 rfl ?_
  refine c_runN (n := a + 7) (n' := a + 10) C (k_X4_init l D cy z (kd0_7 ha) rfl _) hG hS (by unfold nestW; simp) (mA1 (i := 3) rfl rfl) (mA1 (i := 31) rfl rfl) (mA1 (i := 32) rfl rfl) rfl ⟨by decide +kernel, by decide +kernel, by decide +kernel⟩ ⟨(Nat.le_of_ble_eq_true rfl), (Nat.le_of_ble_eq_true rfl)⟩ (Nat.le_of_ble_eq_true rfl) hl.1 ⟨(Nat.le_of_ble_eq_true rfl), (Nat.le_of_ble_eq_true rfl)⟩ dX0_init_31 (fun H locs hG hS => ?_)
  have hG := hG.up (by omega)
  refine c_putF (I := (IN z cy)) C hG hS (by omega) (N := 6) (j := 2) (ty := tyX0 2) rfl inWX0 tyX0_ok nmX0 (by decide) rfl rfl hmn rfl (tyX0_ok 2 (by decide)) rfl rfl (mA1 (i := 104) rfl rfl) (by show 2 < 6; decide) dX0_init_34 (fun H locs hG hS => ?_)
  refine lv_aload_n hx hb dX0_init_37 rfl (lv_at hl 0 rfl) ?_
  refine c_new (n := a + 10) C hG hS (ci := 4) (R := RX4) (T := TX4) (N := 12) (ty0 := tyX4) (fs := [.null, .int 0, .int 0, .int 0, .int 0, .int 0, .int 0, .int 0, .int 0, .int 0, .int 0, .int 0]) rfl inWX4 tyX4_ok (mA1 (i := 28) rfl rfl) (mA1 (i := 29) rfl rfl) (mA1 (i := 3) rfl rfl) (fun j hj => by rcases (show j = 0 ∨ j = 1 ∨ j = 2 ∨ j = 3 ∨ j = 4 ∨ j = 5 ∨ j = 6 ∨ j = 7 ∨ j = 8 ∨ j = 9 ∨ j = 10 ∨ j = 11 by omega) with rfl | rfl | rfl | rfl | rfl | rfl | rfl | rfl | rfl | rfl | rfl | rfl <;> rfl) (Nat.le_of_ble_eq_true rfl) (Nat.le_of_ble_eq_true rfl) dX0_init_38 (fun H hG hS => ?_)
  refine lv_dup hx hb dX0_init_41 rfl ?_
  refine c_runN (n := a + 10) (n' := a + 13) C (k_X4_init l D cy z (kd0_10 ha) rfl _) hG hS (by unfold nestW; simp) (mA1 (i := 3) rfl rfl) (mA1 (i := 31) rfl rfl) (mA1 (i := 32) rfl rfl) rfl ⟨by decide +kernel, by decide +kernel, by decide +kernel⟩ ⟨(Nat.le_of_ble_eq_true rfl), (Nat.le_of_ble_eq_true rfl)⟩ (Nat.le_of_ble_eq_true rfl) hl.1 ⟨(Nat.le_of_ble_eq_true rfl), (Nat.le_of_ble_eq_true rfl)⟩ dX0_init_42 (fun H locs hG hS => ?_)
  have hG := hG.up (by omega)
  refine c_putF (I := (IN z cy)) C hG hS (by omega) (N := 6) (j := 3) (ty := tyX0 3) rfl inWX0 tyX0_ok nmX0 (by decide) rfl rfl hmn rfl (tyX0_ok 3 (by decide)) rfl rfl (mA1 (i := 105) rfl rfl) (by show 3 < 6; decide) dX0_init_45 (fun H locs hG hS => ?_)
  refine lv_aload_n hx hb dX0_init_48 rfl (lv_at hl 0 rfl) ?_
  refine lv_iconst (v := 0) hx hb dX0_init_49 (by decide) ?_
  refine c_put (I := (IN z cy)) C hG hS (by omega) (N := 6) (j := 4) (ty := tyX0 4) rfl inWX0 tyX0_ok nmX0 (by decide) rfl rfl (tyX0_ok 4 (by decide)) rfl rfl (mA1 (i := 106) rfl rfl) (by show 4 < 6; decide) dX0_init_50 (fun H locs hG hS => ?_)
  refine lv_aload_n hx hb dX0_init_53 rfl (lv_at hl 0 rfl) ?_
  refine lv_bipush (v := 24) hx hb dX0_init_54 (by decide) ?_
  refine c_put (I := (IN z cy)) C hG hS (by omega) (N := 6) (j := 5) (ty := tyX0 5) rfl inWX0 tyX0_ok nmX0 (by decide) rfl rfl (tyX0_ok 5 (by decide)) rfl rfl (mA1 (i := 108) rfl rfl) (by show 5 < 6; decide) dX0_init_56 (fun H locs hG hS => ?_)
  exact c_ret C hG hS (fun k _ => congrArg (fun x => cut (IN z cy) a x F k) (by rw [IN, ent_0 ha]; simp [sg0_m (show (4 : Nat) ≠ 5 by decide), sg0_5 ha])) dX0_init_59
set_option maxHeartbeats 4000000 in
set_option maxRecDepth 100000 in
theorem k_X3_init (l : Launch) (D : va_G) (cy : Nat → ClassId) (z : Nat) {a n9 : Nat} (ha : kd a = 3) (hn9 : n9 = a + 53) (F : Nat → va_E) : KC l yX3_init cX3_init 4 72 52 1032 D cy z a n9 (.inr (3, [.null, .null, .null, .null, .int 0, .int 0])) F := by
  subst hn9
  refine metC_of RX3 (plainFor_of_name (by decide)) rfl ?_
  intro p e s m args below meth c C hmn hG hS hz ls hl
  obtain ⟨hx, hb, hr, hml, hown, hW, hlocks, hAm⟩ := id C
  refine lv_aload_n hx hb dX3_init_0 rfl (lv_at hl 0 rfl) ?_
  refine W.objInit hx hb hown (hW _ (mA1 (i := 128) rfl rfl)) (hW _ (mA1 (i := 20) rfl rfl)) (hW _ (mA1 (i := 21) rfl rfl)) rfl (by rw [hml]; exact hl.1) rfl dX3_init_1 (Nat.le_of_ble_eq_true rfl) (Nat.le_of_ble_eq_true rfl) ?_
  refine W.eq (g2 := F0 m 4 ls []) rfl ?_
  refine lv_aload_n hx hb dX3_init_4 rfl (lv_at hl 0 rfl) ?_
  refine c_new (n := a + 1) C hG hS (ci := 0) (R := RX0) (T := TX0) (N := 6) (ty0 := tyX0) (fs := [.null, .null, .null, .null, .int 0, .int 0]) rfl inWX0 tyX0_ok (mA1 (i := 129) rfl rfl) (mA1 (i := 23) rfl rfl) (mA1 (i := 2) rfl rfl) (fun j hj => by rcases (show j = 0 ∨ j = 1 ∨ j = 2 ∨ j = 3 ∨ j = 4 ∨ j = 5 by omega) with rfl | rfl | rfl | rfl | rfl | rfl <;> rfl) (Nat.le_of_ble_eq_true rfl) (Nat.le_of_ble_eq_true rfl) dX3_init_5 (fun H hG hS => ?_)
  refine lv_dup hx hb dX3_init_8 rfl ?_
  refine c_runN (n := a + 1) (n' := a + 14) C (k_X0_init l D cy z (kd3_1 ha) rfl _) hG hS (by unfold nestW; simp) (mA1 (i := 2) rfl rfl) (mA1 (i := 25) rfl rfl) (mA1 (i := 26) rfl rfl) rfl ⟨by decide +kernel, by decide +kernel, by decide +kernel⟩ ⟨(Nat.le_of_ble_eq_true rfl), (Nat.le_of_ble_eq_true rfl)⟩ (Nat.le_of_ble_eq_true rfl) hl.1 ⟨(Nat.le_of_ble_eq_true rfl), (Nat.le_of_ble_eq_true rfl)⟩ dX3_init_9 (fun H locs hG hS => ?_)
  have hG := hG.up (by omega)
  refine c_putF (I := (IN z cy)) C hG hS (by omega) (N := 6) (j := 0) (ty := tyX3 0) rfl inWX3 tyX3_ok nmX3 (by decide) rfl rfl hmn rfl (tyX3_ok 0 (by decide)) rfl rfl (mA1 (i := 131) rfl rfl) (by show 0 < 6; decide) dX3_init_12 (fun H locs hG hS => ?_)
  refine lv_aload_n hx hb dX3_init_15 rfl (lv_at hl 0 rfl) ?_
  refine c_new (n := a + 14) C hG hS (ci := 0) (R := RX0) (T := TX0) (N := 6) (ty0 := tyX0) (fs := [.null, .null, .null, .null, .int 0, .int 0]) rfl inWX0 tyX0_ok (mA1 (i := 129) rfl rfl) (mA1 (i := 23) rfl rfl) (mA1 (i := 2) rfl rfl) (fun j hj => by rcases (show j = 0 ∨ j = 1 ∨ j = 2 ∨ j = 3 ∨ j = 4 ∨ j = 5 by omega) with rfl | rfl | rfl | rfl | rfl | rfl <;> rfl) (Nat.le_of_ble_eq_true rfl) (Nat.le_of_ble_eq_true rfl) dX3_init_16 (fun H hG hS => ?_)
  refine lv_dup hx hb dX3_init_19 rfl ?_
  refine c_runN (n := a + 14) (n' := a + 27) C (k_X0_init l D cy z (kd3_14 ha) rfl _) hG hS (by unfold nestW; simp) (mA1 (i := 2) rfl rfl) (mA1 (i := 25) rfl rfl) (mA1 (i := 26) rfl rfl) rfl ⟨by decide +kernel, by decide +kernel, by decide +kernel⟩ ⟨(Nat.le_of_ble_eq_true rfl), (Nat.le_of_ble_eq_true rfl)⟩ (Nat.le_of_ble_eq_true rfl) hl.1 ⟨(Nat.le_of_ble_eq_true rfl), (Nat.le_of_ble_eq_true rfl)⟩ dX3_init_20 (fun H locs hG hS => ?_)
  have hG := hG.up (by omega)
  refine c_putF (I := (IN z cy)) C hG hS (by omega) (N := 6) (j := 1) (ty := tyX3 1) rfl inWX3 tyX3_ok nmX3 (by decide) rfl rfl hmn rfl (tyX3_ok 1 (by decide)) rfl rfl (mA1 (i := 132) rfl rfl) (by show 1 < 6; decide) dX3_init_23 (fun H locs hG hS => ?_)
  refine lv_aload_n hx hb dX3_init_26 rfl (lv_at hl 0 rfl) ?_
  refine c_new (n := a + 27) C hG hS (ci := 0) (R := RX0) (T := TX0) (N := 6) (ty0 := tyX0) (fs := [.null, .null, .null, .null, .int 0, .int 0]) rfl inWX0 tyX0_ok (mA1 (i := 129) rfl rfl) (mA1 (i := 23) rfl rfl) (mA1 (i := 2) rfl rfl) (fun j hj => by rcases (show j = 0 ∨ j = 1 ∨ j = 2 ∨ j = 3 ∨ j = 4 ∨ j = 5 by omega) with rfl | rfl | rfl | rfl | rfl | rfl <;> rfl) (Nat.le_of_ble_eq_true rfl) (Nat.le_of_ble_eq_true rfl) dX3_init_27 (fun H hG hS => ?_)
  refine lv_dup hx hb dX3_init_30 rfl ?_
  refine c_runN (n := a + 27) (n' := a + 40) C (k_X0_init l D cy z (kd3_27 ha) rfl _) hG hS (by unfold nestW; simp) (mA1 (i := 2) rfl rfl) (mA1 (i := 25) rfl rfl) (mA1 (i := 26) rfl rfl) rfl ⟨by decide +kernel, by decide +kernel, by decide +kernel⟩ ⟨(Nat.le_of_ble_eq_true rfl), (Nat.le_of_ble_eq_true rfl)⟩ (Nat.le_of_ble_eq_true rfl) hl.1 ⟨(Nat.le_of_ble_eq_true rfl), (Nat.le_of_ble_eq_true rfl)⟩ dX3_init_31 (fun H locs hG hS => ?_)
  have hG := hG.up (by omega)
  refine c_putF (I := (IN z cy)) C hG hS (by omega) (N := 6) (j := 2) (ty := tyX3 2) rfl inWX3 tyX3_ok nmX3 (by decide) rfl rfl hmn rfl (tyX3_ok 2 (by decide)) rfl rfl (mA1 (i := 133) rfl rfl) (by show 2 < 6; decide) dX3_init_34 (fun H locs hG hS => ?_)
  refine lv_aload_n hx hb dX3_init_37 rfl (lv_at hl 0 rfl) ?_
  refine c_new (n := a + 40) C hG hS (ci := 0) (R := RX0) (T := TX0) (N := 6) (ty0 := tyX0) (fs := [.null, .null, .null, .null, .int 0, .int 0]) rfl inWX0 tyX0_ok (mA1 (i := 129) rfl rfl) (mA1 (i := 23) rfl rfl) (mA1 (i := 2) rfl rfl) (fun j hj => by rcases (show j = 0 ∨ j = 1 ∨ j = 2 ∨ j = 3 ∨ j = 4 ∨ j = 5 by omega) with rfl | rfl | rfl | rfl | rfl | rfl <;> rfl) (Nat.le_of_ble_eq_true rfl) (Nat.le_of_ble_eq_true rfl) dX3_init_38 (fun H hG hS => ?_)
  refine lv_dup hx hb dX3_init_41 rfl ?_
  refine c_runN (n := a + 40) (n' := a + 53) C (k_X0_init l D cy z (kd3_40 ha) rfl _) hG hS (by unfold nestW; simp) (mA1 (i := 2) rfl rfl) (mA1 (i := 25) rfl rfl) (mA1 (i := 26) rfl rfl) rfl ⟨by decide +kernel, by decide +kernel, by decide +kernel⟩ ⟨(Nat.le_of_ble_eq_true rfl), (Nat.le_of_ble_eq_true rfl)⟩ (Nat.le_of_ble_eq_true rfl) hl.1 ⟨(Nat.le_of_ble_eq_true rfl), (Nat.le_of_ble_eq_true rfl)⟩ dX3_init_42 (fun H locs hG hS => ?_)
  have hG := hG.up (by omega)
  refine c_putF (I := (IN z cy)) C hG hS (by omega) (N := 6) (j := 3) (ty := tyX3 3) rfl inWX3 tyX3_ok nmX3 (by decide) rfl rfl hmn rfl (tyX3_ok 3 (by decide)) rfl rfl (mA1 (i := 134) rfl rfl) (by show 3 < 6; decide) dX3_init_45 (fun H locs hG hS => ?_)
  exact c_ret C hG hS (fun k _ => congrArg (fun x => cut (IN z cy) a x F k) (by rw [IN, ent_3 ha]; simp [sg0_n (show kd a ≠ 0 by rw [ha]; decide)])) dX3_init_48
set_option maxHeartbeats 4000000 in
set_option maxRecDepth 100000 in
theorem k_X2_init (l : Launch) (D : va_G) (cy : Nat → ClassId) (z : Nat) {a n9 : Nat} (ha : kd a = 2) (hn9 : n9 = a + 2) (F : Nat → va_E) : KC l yX2_init cX2_init 1 12 1 80 D cy z a n9 (.inr (2, [.null, .int 0])) F := by
  subst hn9
  refine metC_of RX2 (plainFor_of_name (by decide)) rfl ?_
  intro p e s m args below meth c C hmn hG hS hz ls hl
  obtain ⟨hx, hb, hr, hml, hown, hW, hlocks, hAm⟩ := id C
  refine lv_aload_n hx hb dX2_init_0 rfl (lv_at hl 0 rfl) ?_
  refine W.objInit hx hb hown (hW _ (mA1 (i := 155) rfl rfl)) (hW _ (mA1 (i := 20) rfl rfl)) (hW _ (mA1 (i := 21) rfl rfl)) rfl (by rw [hml]; exact hl.1) rfl dX2_init_1 (Nat.le_of_ble_eq_true rfl) (Nat.le_of_ble_eq_true rfl) ?_
  refine W.eq (g2 := F0 m 4 ls []) rfl ?_
  refine lv_aload_n hx hb dX2_init_4 rfl (lv_at hl 0 rfl) ?_
  refine lv_bipush (v := 80) hx hb dX2_init_5 (by decide) ?_
  refine c_newa (n := a + 1) (I := (IN z cy)) C hG hS (at0 := .char) (ty := .char) (mA1 (i := 162) rfl rfl) rfl (t0 := 1) (N := 80) (x := ((80, .inl (fun _ => 0)) : vp_A)) rfl (fun q => q) rfl (by decide) rfl (Nat.le_of_ble_eq_true rfl) (Nat.le_of_ble_eq_true rfl) (Nat.le_of_ble_eq_true rfl) dX2_init_7 (fun H hG hS => ?_)
  have hI : IN z cy (a + 1) = .inl (cy 1, ((80, .inl (fun _ => 0)) : vp_A)) := by
    rw [IN, ent_8 (kd2_1 ha)]
    rw [show (fun i => chr (sg0 (a + 1) i)) = (fun _ => 0 : Nat → Int32) from funext fun b => by rw [sg0_n (by rw [kd2_1 ha]; decide)]; rfl]
  rw [← hI] at hG
  have hG := hG.up (by omega)
  refine c_putF (I := (IN z cy)) C hG hS (by omega) (N := 2) (j := 0) (ty := tyX2 0) rfl inWX2 tyX2_ok nmX2 (by decide) rfl rfl hmn rfl (tyX2_ok 0 (by decide)) rfl rfl (mA1 (i := 156) rfl rfl) (by show 0 < 2; decide) dX2_init_9 (fun H locs hG hS => ?_)
  exact c_ret C hG hS (fun k _ => congrArg (fun x => cut (IN z cy) a x F k) (by rw [IN, ent_2 ha]; simp [sg0_n (show kd a ≠ 0 by rw [ha]; decide)])) dX2_init_12
set_option maxHeartbeats 4000000 in
set_option maxRecDepth 100000 in
theorem k_X5_init (l : Launch) (D : va_G) (cy : Nat → ClassId) (z : Nat) {a n9 : Nat} (ha : kd a = 5) (hn9 : n9 = a + 95) (F : Nat → va_E) : KC l yX5_init cX5_init 5 92 94 1894 D cy z a n9 (.inr (5, [.null, .null, .null, .null, .null, .int 0])) F := by
  subst hn9
  refine metC_of RX5 (plainFor_of_name (by decide)) rfl ?_
  intro p e s m args below meth c C hmn hG hS hz ls hl
  obtain ⟨hx, hb, hr, hml, hown, hW, hlocks, hAm⟩ := id C
  refine lv_aload_n hx hb dX5_init_0 rfl (lv_at hl 0 rfl) ?_
  refine W.objInit hx hb hown (hW _ (mA1 (i := 19) rfl rfl)) (hW _ (mA1 (i := 20) rfl rfl)) (hW _ (mA1 (i := 21) rfl rfl)) rfl (by rw [hml]; exact hl.1) rfl dX5_init_1 (Nat.le_of_ble_eq_true rfl) (Nat.le_of_ble_eq_true rfl) ?_
  refine W.eq (g2 := F0 m 4 ls []) rfl ?_
  refine lv_aload_n hx hb dX5_init_4 rfl (lv_at hl 0 rfl) ?_
  refine c_new (n := a + 1) C hG hS (ci := 0) (R := RX0) (T := TX0) (N := 6) (ty0 := tyX0) (fs := [.null, .null, .null, .null, .int 0, .int 0]) rfl inWX0 tyX0_ok (mA1 (i := 22) rfl rfl) (mA1 (i := 23) rfl rfl) (mA1 (i := 2) rfl rfl) (fun j hj => by rcases (show j = 0 ∨ j = 1 ∨ j = 2 ∨ j = 3 ∨ j = 4 ∨ j = 5 by omega) with rfl | rfl | rfl | rfl | rfl | rfl <;> rfl) (Nat.le_of_ble_eq_true rfl) (Nat.le_of_ble_eq_true rfl) dX5_init_5 (fun H hG hS => ?_)
  refine lv_dup hx hb dX5_init_8 rfl ?_
  refine c_runN (n := a + 1) (n' := a + 14) C (k_X0_init l D cy z (kd5_1 ha) rfl _) hG hS (by unfold nestW; simp) (mA1 (i := 2) rfl rfl) (mA1 (i := 25) rfl rfl) (mA1 (i := 26) rfl rfl) rfl ⟨by decide +kernel, by decide +kernel, by decide +kernel⟩ ⟨(Nat.le_of_ble_eq_true rfl), (Nat.le_of_ble_eq_true rfl)⟩ (Nat.le_of_ble_eq_true rfl) hl.1 ⟨(Nat.le_of_ble_eq_true rfl), (Nat.le_of_ble_eq_true rfl)⟩ dX5_init_9 (fun H locs hG hS => ?_)
  have hG := hG.up (by omega)
  refine c_putF (I := (IN z cy)) C hG hS (by omega) (N := 6) (j := 0) (ty := tyX5 0) rfl inWX5 tyX5_ok nmX5 (by decide) rfl rfl hmn rfl (tyX5_ok 0 (by decide)) rfl rfl (mA1 (i := 163) rfl rfl) (by show 0 < 6; decide) dX5_init_12 (fun H locs hG hS => ?_)
  refine lv_aload_n hx hb dX5_init_15 rfl (lv_at hl 0 rfl) ?_
  refine c_new (n := a + 14) C hG hS (ci := 0) (R := RX0) (T := TX0) (N := 6) (ty0 := tyX0) (fs := [.null, .null, .null, .null, .int 0, .int 0]) rfl inWX0 tyX0_ok (mA1 (i := 22) rfl rfl) (mA1 (i := 23) rfl rfl) (mA1 (i := 2) rfl rfl) (fun j hj => by rcases (show j = 0 ∨ j = 1 ∨ j = 2 ∨ j = 3 ∨ j = 4 ∨ j = 5 by omega) with rfl | rfl | rfl | rfl | rfl | rfl <;> rfl) (Nat.le_of_ble_eq_true rfl) (Nat.le_of_ble_eq_true rfl) dX5_init_16 (fun H hG hS => ?_)
  refine lv_dup hx hb dX5_init_19 rfl ?_
  refine c_runN (n := a + 14) (n' := a + 27) C (k_X0_init l D cy z (kd5_14 ha) rfl _) hG hS (by unfold nestW; simp) (mA1 (i := 2) rfl rfl) (mA1 (i := 25) rfl rfl) (mA1 (i := 26) rfl rfl) rfl ⟨by decide +kernel, by decide +kernel, by decide +kernel⟩ ⟨(Nat.le_of_ble_eq_true rfl), (Nat.le_of_ble_eq_true rfl)⟩ (Nat.le_of_ble_eq_true rfl) hl.1 ⟨(Nat.le_of_ble_eq_true rfl), (Nat.le_of_ble_eq_true rfl)⟩ dX5_init_20 (fun H locs hG hS => ?_)
  have hG := hG.up (by omega)
  refine c_putF (I := (IN z cy)) C hG hS (by omega) (N := 6) (j := 1) (ty := tyX5 1) rfl inWX5 tyX5_ok nmX5 (by decide) rfl rfl hmn rfl (tyX5_ok 1 (by decide)) rfl rfl (mA1 (i := 164) rfl rfl) (by show 1 < 6; decide) dX5_init_23 (fun H locs hG hS => ?_)
  refine lv_aload_n hx hb dX5_init_26 rfl (lv_at hl 0 rfl) ?_
  refine c_new (n := a + 27) C hG hS (ci := 0) (R := RX0) (T := TX0) (N := 6) (ty0 := tyX0) (fs := [.null, .null, .null, .null, .int 0, .int 0]) rfl inWX0 tyX0_ok (mA1 (i := 22) rfl rfl) (mA1 (i := 23) rfl rfl) (mA1 (i := 2) rfl rfl) (fun j hj => by rcases (show j = 0 ∨ j = 1 ∨ j = 2 ∨ j = 3 ∨ j = 4 ∨ j = 5 by omega) with rfl | rfl | rfl | rfl | rfl | rfl <;> rfl) (Nat.le_of_ble_eq_true rfl) (Nat.le_of_ble_eq_true rfl) dX5_init_27 (fun H hG hS => ?_)
  refine lv_dup hx hb dX5_init_30 rfl ?_
  refine c_runN (n := a + 27) (n' := a + 40) C (k_X0_init l D cy z (kd5_27 ha) rfl _) hG hS (by unfold nestW; simp) (mA1 (i := 2) rfl rfl) (mA1 (i := 25) rfl rfl) (mA1 (i := 26) rfl rfl) rfl ⟨by decide +kernel, by decide +kernel, by decide +kernel⟩ ⟨(Nat.le_of_ble_eq_true rfl), (Nat.le_of_ble_eq_true rfl)⟩ (Nat.le_of_ble_eq_true rfl) hl.1 ⟨(Nat.le_of_ble_eq_true rfl), (Nat.le_of_ble_eq_true rfl)⟩ dX5_init_31 (fun H locs hG hS => ?_)
  have hG := hG.up (by omega)
  refine c_putF (I := (IN z cy)) C hG hS (by omega) (N := 6) (j := 2) (ty := tyX5 2) rfl inWX5 tyX5_ok nmX5 (by decide) rfl rfl hmn rfl (tyX5_ok 2 (by decide)) rfl rfl (mA1 (i := 165) rfl rfl) (by show 2 < 6; decide) dX5_init_34 (fun H locs hG hS => ?_)
  refine lv_aload_n hx hb dX5_init_37 rfl (lv_at hl 0 rfl) ?_
  refine c_new (n := a + 40) C hG hS (ci := 3) (R := RX3) (T := TX3) (N := 6) (ty0 := tyX3) (fs := [.null, .null, .null, .null, .int 0, .int 0]) rfl inWX3 tyX3_ok (mA1 (i := 123) rfl rfl) (mA1 (i := 124) rfl rfl) (mA1 (i := 5) rfl rfl) (fun j hj => by rcases (show j = 0 ∨ j = 1 ∨ j = 2 ∨ j = 3 ∨ j = 4 ∨ j = 5 by omega) with rfl | rfl | rfl | rfl | rfl | rfl <;> rfl) (Nat.le_of_ble_eq_true rfl) (Nat.le_of_ble_eq_true rfl) dX5_init_38 (fun H hG hS => ?_)
  refine lv_dup hx hb dX5_init_41 rfl ?_
  refine c_runN (n := a + 40) (n' := a + 93) C (k_X3_init l D cy z (kd5_40 ha) rfl _) hG hS (by unfold nestW; simp) (mA1 (i := 5) rfl rfl) (mA1 (i := 126) rfl rfl) (mA1 (i := 127) rfl rfl) rfl ⟨by decide +kernel, by decide +kernel, by decide +kernel⟩ ⟨(Nat.le_of_ble_eq_true rfl), (Nat.le_of_ble_eq_true rfl)⟩ (Nat.le_of_ble_eq_true rfl) hl.1 ⟨(Nat.le_of_ble_eq_true rfl), (Nat.le_of_ble_eq_true rfl)⟩ dX5_init_42 (fun H locs hG hS => ?_)
  have hG := hG.up (by omega)
  refine c_putF (I := (IN z cy)) C hG hS (by omega) (N := 6) (j := 3) (ty := tyX5 3) rfl inWX5 tyX5_ok nmX5 (by decide) rfl rfl hmn rfl (tyX5_ok 3 (by decide)) rfl rfl (mA1 (i := 166) rfl rfl) (by show 3 < 6; decide) dX5_init_45 (fun H locs hG hS => ?_)
  refine lv_aload_n hx hb dX5_init_48 rfl (lv_at hl 0 rfl) ?_
  refine c_new (n := a + 93) C hG hS (ci := 2) (R := RX2) (T := TX2) (N := 2) (ty0 := tyX2) (fs := [.null, .int 0]) rfl inWX2 tyX2_ok (mA1 (i := 150) rfl rfl) (mA1 (i := 151) rfl rfl) (mA1 (i := 6) rfl rfl) (fun j hj => by rcases (show j = 0 ∨ j = 1 by omega) with rfl | rfl <;> rfl) (Nat.le_of_ble_eq_true rfl) (Nat.le_of_ble_eq_true rfl) dX5_init_49 (fun H hG hS => ?_)
  refine lv_dup hx hb dX5_init_52 rfl ?_
  refine c_runN (n := a + 93) (n' := a + 95) C (k_X2_init l D cy z (kd5_93 ha) rfl _) hG hS (by unfold nestW; simp) (mA1 (i := 6) rfl rfl) (mA1 (i := 153) rfl rfl) (mA1 (i := 154) rfl rfl) rfl ⟨by decide +kernel, by decide +kernel, by decide +kernel⟩ ⟨(Nat.le_of_ble_eq_true rfl), (Nat.le_of_ble_eq_true rfl)⟩ (Nat.le_of_ble_eq_true rfl) hl.1 ⟨(Nat.le_of_ble_eq_true rfl), (Nat.le_of_ble_eq_true rfl)⟩ dX5_init_53 (fun H locs hG hS => ?_)
  have hG := hG.up (by omega)
  refine c_putF (I := (IN z cy)) C hG hS (by omega) (N := 6) (j := 4) (ty := tyX5 4) rfl inWX5 tyX5_ok nmX5 (by decide) rfl rfl hmn rfl (tyX5_ok 4 (by decide)) rfl rfl (mA1 (i := 167) rfl rfl) (by show 4 < 6; decide) dX5_init_56 (fun H locs hG hS => ?_)
  exact c_ret C hG hS (fun k _ => congrArg (fun x => cut (IN z cy) a x F k) (by rw [IN, ent_5 ha]; simp [sg0_n (show kd a ≠ 0 by rw [ha]; decide)])) dX5_init_59
end
section
/-! the pure part: numbers, one snail's cells -/
theorem up_eq {τ : Sg} {a b : Nat} {v : Int32} : up τ a b v a b = v := by simp [up]
theorem up_nb {τ : Sg} {a b a' b' : Nat} {v : Int32} (h : b' ≠ b) : up τ a b v a' b' = τ a' b' := by simp [up, h]
theorem nI_2 (a : Nat) : nI a + 2 = nI (a + 2) := nI_add a 2
def St (x : Int32) : Prop := x = 0 ∨ x = 1 ∨ x = 2 ∨ x = 3
def Dr (x : Int32) : Prop := x = -1 ∨ x = 0 ∨ x = 1
def Ru (x : Int32) : Prop := x = 0 ∨ x = 1
theorem st_xor {a b : Int32} (ha : St a) (hb : St b) : a ^^^ b = 0 ∨ a ^^^ b = 1 ∨ a ^^^ b = 2 ∨ a ^^^ b = 3 := by
  rcases ha with rfl | rfl | rfl | rfl <;> rcases hb with rfl | rfl | rfl | rfl <;> decide
theorem st_xor0 {a b : Int32} (ha : St a) (hb : St b) (h : a ^^^ b = 0) : b = a := by
  revert h
  rcases ha with rfl | rfl | rfl | rfl <;> rcases hb with rfl | rfl | rfl | rfl <;> decide
theorem st_comm {a b : Int32} (ha : St a) (hb : St b) : a ^^^ b = b ^^^ a := by
  rcases ha with rfl | rfl | rfl | rfl <;> rcases hb with rfl | rfl | rfl | rfl <;> decide
theorem st_of {x : Int32} (h1 : ¬ x < 0) (h2 : x < 4) : St x := by
  have a := Int32.le_iff_toInt_le.mp (Int32.not_lt.mp h1)
  have b := Int32.lt_iff_toInt_lt.mp h2
  rw [show (0 : Int32).toInt = 0 from rfl] at a
  rw [show (4 : Int32).toInt = 4 from rfl] at b
  have : x.toInt = 0 ∨ x.toInt = 1 ∨ x.toInt = 2 ∨ x.toInt = 3 := by omega
  unfold St
  rcases this with h | h | h | h
  · exact Or.inl (Int32.toInt_inj.mp h)
  · exact Or.inr (Or.inl (Int32.toInt_inj.mp h))
  · exact Or.inr (Or.inr (Or.inl (Int32.toInt_inj.mp h)))
  · exact Or.inr (Or.inr (Or.inr (Int32.toInt_inj.mp h)))
def dirOf (s d : Int32) : Int32 := if s ≤ 0 then if 0 ≤ s then d else -1 else 1
theorem row_eq : ∀ a, a < 64 → (nI a - nI a / 16 * 16) * 3 = nI (a % 16 * 3) := by decide +kernel
theorem row_eq1 : ∀ a, a < 64 → nI a - nI a / 16 * 16 = nI (a % 16) := by decide +kernel
theorem rowOf_nI {σ : Sg} {q O i : Nat} (hO : σ q 1 = nI O) (h : O + i < 64) : f_X1_rowOf σ q (nI i) = nI ((O + i) % 16 * 3) := by
  unfold f_X1_rowOf
  rw [hO, nI_add]
  exact row_eq _ h
theorem write_nI {σ : Sg} {q r : Nat} {v : Int32} (hr : r < 48) : s_X1_write σ q (nI r) v = up σ (q + 1) r v := by
  unfold s_X1_write
  have h0 : ¬ nI r < 0 := by
    rw [show (0 : Int32) = nI 0 from rfl, nI_ltI (by omega) (by omega)]
    omega
  have h1 : ¬ (48 : Int32) ≤ nI r := by
    rw [show (48 : Int32) = nI 48 from rfl, nI_leI (by omega) (by omega)]
    omega
  rw [if_neg h0, if_neg h1, nI_clamp (by omega)]
theorem read_nI {σ : Sg} {q O i c : Nat} (hO : σ q 1 = nI O) (h : O + i < 64) (hc : c < 3) : f_X1_read σ q (nI i) (nI c) = σ (q + 1) ((O + i) % 16 * 3 + c) := by
  unfold f_X1_read
  rw [rowOf_nI hO h, nI_add]
  have h0 : ¬ nI ((O + i) % 16 * 3 + c) < 0 := by
    rw [show (0 : Int32) = nI 0 from rfl, nI_ltI (by omega) (by omega)]
    omega
  have h1 : nI ((O + i) % 16 * 3 + c) < 48 := by
    rw [show (48 : Int32) = nI 48 from rfl, nI_ltI (by omega) (by omega)]
    omega
  rw [if_neg h0, if_pos h1, nI_clamp (by omega)]
theorem step_nI {σ : Sg} {q O i : Nat} (hO : σ q 1 = nI O) (h : O + i < 64) : f_X1_step σ q (nI i) = σ (q + 1) ((O + i) % 16 * 3 + 0) := read_nI (c := 0) hO h (by omega)
theorem spent_nI {σ : Sg} {q O i : Nat} (hO : σ q 1 = nI O) (h : O + i < 64) : f_X1_spent σ q (nI i) = σ (q + 1) ((O + i) % 16 * 3 + 1) := read_nI (c := 1) hO h (by omega)
theorem before_nI {σ : Sg} {q O i : Nat} (hO : σ q 1 = nI O) (h : O + i < 64) : f_X1_before σ q (nI i) = σ (q + 1) ((O + i) % 16 * 3 + 2) := read_nI (c := 2) hO h (by omega)
/-- the log with one entry more: where its oldest row lies, how many entries -/
def lO (O L : Nat) : Nat := if L = 16 then (O + 1) % 16 else O
def lL (L : Nat) : Nat := if L = 16 then 16 else L + 1
theorem add_eq {σ : Sg} {q O L : Nat} {x y w : Int32} (hO : σ q 1 = nI O) (hO16 : O < 16) (hL : σ q 2 = nI L) (hL16 : L ≤ 16) :
    s_X1_add σ q x y w = up (up (up (up (up σ q 1 (nI (lO O L))) q 2 (nI (lL L))) (q + 1) ((O + L) % 16 * 3) x) (q + 1) ((O + L) % 16 * 3 + 1) y) (q + 1) ((O + L) % 16 * 3 + 2) w := by
  unfold s_X1_add lO lL
  have hle : (16 : Int32) ≤ σ q 2 ↔ 16 ≤ L := by rw [hL]; exact cI_le (x := 16) (y := nI L) rfl rfl (by omega) (by omega)
  by_cases c : L = 16
  · rw [if_pos (hle.mpr (by omega)), if_pos c, if_pos c]
    have e1 : (σ q 1 + 1) - (σ q 1 + 1) / 16 * 16 = nI ((O + 1) % 16) := by
      rw [hO, nI_1]
      exact row_eq1 _ (by omega)
    rw [e1]
    have e2 : (up σ q 1 (nI ((O + 1) % 16))) q 2 - 1 = nI 15 := by
      rw [up_nb (by decide), hL, c]
      rfl
    rw [e2, rowOf_nI (O := (O + 1) % 16) up_eq (by omega), show ((O + 1) % 16 + 15) % 16 = (O + L) % 16 by omega]
    have hup : up (up σ q 1 (nI ((O + 1) % 16))) q 2 (nI 16) = up σ q 1 (nI ((O + 1) % 16)) := by
      funext a b
      unfold up
      by_cases h : a = q ∧ b = 2
      · rw [if_pos h, if_neg (by omega), h.1, h.2, hL, c]
      · rw [if_neg h]
    rw [hup, show nI ((O + L) % 16 * 3) + 0 = nI ((O + L) % 16 * 3) from nI_add _ 0, show nI ((O + L) % 16 * 3) + 1 = nI ((O + L) % 16 * 3 + 1) from nI_1 _, show nI ((O + L) % 16 * 3) + 2 = nI ((O + L) % 16 * 3 + 2) from nI_2 _, write_nI (by omega), write_nI (by omega), write_nI (by omega)]
  · rw [if_neg (fun h => c (by have := hle.mp h; omega)), if_neg c, if_neg c]
    have hup : up (up σ q 1 (nI O)) q 2 (nI (L + 1)) = up σ q 2 (σ q 2 + 1) := by
      funext a b
      unfold up
      by_cases h : a = q ∧ b = 2
      · rw [if_pos h, if_pos h, hL, nI_1]
      · rw [if_neg h, if_neg h]
        by_cases h2 : a = q ∧ b = 1
        · rw [if_pos h2, h2.1, h2.2, hO]
        · rw [if_neg h2]
    have e2 : (up σ q 2 (σ q 2 + 1)) q 2 - 1 = nI L := by
      rw [up_eq, hL, nI_1]
      exact pk_sub (a := L + 1) (b := 1) (by omega)
    rw [hup, e2, rowOf_nI (O := O) (by rw [up_nb (by decide)]; exact hO) (by omega), show nI ((O + L) % 16 * 3) + 0 = nI ((O + L) % 16 * 3) from nI_add _ 0, show nI ((O + L) % 16 * 3) + 1 = nI ((O + L) % 16 * 3 + 1) from nI_1 _, show nI ((O + L) % 16 * 3) + 2 = nI ((O + L) % 16 * 3 + 2) from nI_2 _, write_nI (by omega), write_nI (by omega), write_nI (by omega)]
/-- a snail after a step: its words -/
def mvK (σ : Sg) (k : Nat) (x y w : Int32) : Nat → Int32 := fun a =>
  if a = 1 then x else if a = 2 then σ k 2 + y else if a = 3 then dirOf y (σ k 3) else if a = 4 then (if σ k 1 ^^^ x = 2 then σ k 4 + y else σ k 4) else if a = 5 then (if σ k 1 ^^^ x = 1 then σ k 5 + y else σ k 5) else if a = 6 then (if σ k 1 ^^^ x = 3 then σ k 6 + y else σ k 6) else if a = 10 then σ k 10 + ab y else if a = 11 then σ k 11 + w else σ k a
theorem book_k {σ : Sg} {k a : Nat} {x y : Int32} : s_X4_book σ k x y k a = if a = 4 then (if x = 2 then σ k 4 + y else σ k 4) else if a = 5 then (if x = 1 then σ k 5 + y else σ k 5) else if a = 6 then (if x = 3 then σ k 6 + y else σ k 6) else σ k a := by
  unfold s_X4_book
  by_cases h1 : x = 1
  · subst h1
    rw [if_pos rfl]
    unfold up
    by_cases ha : a = 5
    · subst ha; simp
    · rw [if_neg (by omega)]
      by_cases h4 : a = 4
      · subst h4; simp
      · rw [if_neg h4, if_neg ha]
        by_cases h6 : a = 6
        · subst h6; simp
        · rw [if_neg h6]
  · rw [if_neg h1]
    by_cases h2 : x = 2
    · subst h2
      rw [if_pos rfl]
      unfold up
      by_cases ha : a = 4
      · subst ha; simp
      · rw [if_neg (by omega), if_neg ha]
        by_cases h5 : a = 5
        · subst h5; simp
        · rw [if_neg h5]
          by_cases h6 : a = 6
          · subst h6; simp
          · rw [if_neg h6]
    · rw [if_neg h2]
      by_cases h3 : x = 3
      · subst h3
        rw [if_pos rfl]
        unfold up
        by_cases ha : a = 6
        · subst ha; simp
        · rw [if_neg (by omega)]
          by_cases h4 : a = 4
          · subst h4; simp
          · rw [if_neg h4]
            by_cases h5 : a = 5
            · subst h5; simp
            · rw [if_neg h5, if_neg ha]
      · rw [if_neg h3, if_neg h2, if_neg h1, if_neg h3]
        by_cases h4 : a = 4
        · subst h4; simp
        · rw [if_neg h4]
          by_cases h5 : a = 5
          · subst h5; simp
          · rw [if_neg h5]
            by_cases h6 : a = 6
            · subst h6; simp
            · rw [if_neg h6]
theorem book_ne {σ : Sg} {k q : Nat} {x y : Int32} (h : q ≠ k) : s_X4_book σ k x y q = σ q := by
  unfold s_X4_book
  repeat' split
  all_goals first | exact up_ne h | rfl
theorem up_k {σ : Sg} {k a b : Nat} {v : Int32} : up σ k a v k b = if b = a then v else σ k b := by
  unfold up
  by_cases h : b = a
  · rw [if_pos ⟨rfl, h⟩, if_pos h]
  · rw [if_neg (fun q => h q.2), if_neg h]
theorem move_k {σ : Sg} {k a : Nat} {x y w : Int32} : s_X4_move σ k x y w k a = mvK σ k x y w a := by
  have hc : a = 1 ∨ a = 2 ∨ a = 3 ∨ a = 4 ∨ a = 5 ∨ a = 6 ∨ a = 10 ∨ a = 11 ∨ (a ≠ 1 ∧ a ≠ 2 ∧ a ≠ 3 ∧ a ≠ 4 ∧ a ≠ 5 ∧ a ≠ 6 ∧ a ≠ 10 ∧ a ≠ 11) := by omega
  unfold s_X4_move mvK dirOf
  by_cases h0 : y = 0
  · subst h0
    rw [if_pos rfl]
    simp only [up_k, book_k]
    rcases hc with h | h | h | h | h | h | h | h | h
    all_goals first | (subst h; simp; done) | skip
    obtain ⟨h1, h2, h3, h4, h5, h6, h7, h8⟩ := h
    simp [h1, h2, h3, h4, h5, h6, h7, h8]
  · rw [if_neg h0]
    by_cases hy : y ≤ 0
    · have hy2 : ¬ 0 ≤ y := fun q => h0 (Int32.le_antisymm hy q)
      rw [if_pos hy]
      simp only [up_k, book_k]
      rcases hc with h | h | h | h | h | h | h | h | h
      all_goals first | (subst h; simp [hy, hy2]; done) | skip
      obtain ⟨h1, h2, h3, h4, h5, h6, h7, h8⟩ := h
      simp [h1, h2, h3, h4, h5, h6, h7, h8]
    · rw [if_neg hy]
      simp only [up_k, book_k]
      rcases hc with h | h | h | h | h | h | h | h | h
      all_goals first | (subst h; simp [hy]; done) | skip
      obtain ⟨h1, h2, h3, h4, h5, h6, h7, h8⟩ := h
      simp [h1, h2, h3, h4, h5, h6, h7, h8]
theorem move_ne {σ : Sg} {k q : Nat} {x y w : Int32} (h : q ≠ k) : s_X4_move σ k x y w q = σ q := by
  unfold s_X4_move
  split
  · rw [up_ne h, up_ne h, up_ne h, up_ne h, book_ne h]
  · split
    · rw [up_ne h, up_ne h, up_ne h, up_ne h, up_ne h, book_ne h]
    · rw [up_ne h, up_ne h, up_ne h, up_ne h, up_ne h, book_ne h]
theorem i32_a {a b c d v : Int32} : a + v + b + c - d = (a + b + c - d) + v := by grind
theorem i32_b {a b c d v : Int32} : a + (b + v) + c - d = (a + b + c - d) + v := by grind
theorem i32_c {a b c d v : Int32} : a + b + (c + v) - d = (a + b + c - d) + v := by grind
theorem dirOf_dr {s d : Int32} (h : Dr d) : Dr (dirOf s d) := by
  unfold dirOf
  split
  · split
    · exact h
    · exact Or.inl rfl
  · exact Or.inr (Or.inr rfl)
/-- what a step must be: none where the state stays -/
def Mv (u x y : Int32) : Prop := (u ^^^ x = 0 → y = 0) ∧ -2 ≤ y.toInt ∧ y.toInt ≤ 2
theorem add_ne {σ : Sg} {q a : Nat} {x y w : Int32} {O L : Nat} (hO : σ q 1 = nI O) (hO16 : O < 16) (hL : σ q 2 = nI L) (hL16 : L ≤ 16) (h1 : a ≠ q) (h2 : a ≠ q + 1) : s_X1_add σ q x y w a = σ a := by
  rw [add_eq hO hO16 hL hL16, up_ne h2, up_ne h2, up_ne h2, up_ne h1, up_ne h1]
def CT (c : Int32) : Prop := ∃ n : Nat, 1 ≤ n ∧ n ≤ 100 ∧ c = nI (4 * n)
theorem CT.ne {c : Int32} (h : CT c) : ¬ c = 0 := by
  obtain ⟨n, h1, h2, rfl⟩ := h
  intro e
  have := (nI_eq (a := 4 * n) (b := 0) (by omega) (by omega)).mp e
  omega
theorem snail_nI {σ : Sg} {g j : Nat} (hj : j < 4) : f_X0_snail σ g (nI j) = g + 1 + 3 * j := by
  have : j = 0 ∨ j = 1 ∨ j = 2 ∨ j = 3 := by omega
  rcases this with rfl | rfl | rfl | rfl <;> rfl
theorem nI_int {a : Nat} (h : a < 2 ^ 31) : (nI a).toInt = (a : Int) := nI_toInt h
theorem CT.int {c : Int32} (h : CT c) : 4 ≤ c.toInt ∧ c.toInt ≤ 400 := by
  obtain ⟨n, h1, h2, rfl⟩ := h
  rw [nI_int (by omega)]
  omega
theorem tdiv_bd {a b : Int} (hb : 1 ≤ b) : a.tdiv b * b + a.tmod b = a ∧ (0 ≤ a → 0 ≤ a.tmod b ∧ a.tmod b < b ∧ 0 ≤ a.tdiv b) ∧ (a < 0 → a.tmod b ≤ 0 ∧ -b < a.tmod b ∧ a.tdiv b ≤ 0) := by
  refine ⟨Int.tdiv_mul_add_tmod a b, fun ha => ⟨Int.tmod_nonneg b ha, Int.tmod_lt_of_pos a (by omega), Int.tdiv_nonneg ha (by omega)⟩, fun ha => ?_⟩
  have e1 : a.tmod b = -((-a).tmod b) := by rw [Int.neg_tmod]; omega
  have e2 : a.tdiv b = -((-a).tdiv b) := by rw [Int.neg_tdiv]; omega
  have := Int.tmod_nonneg b (show 0 ≤ -a by omega)
  have := Int.tmod_lt_of_pos (-a) (show 0 < b by omega)
  have := Int.tdiv_nonneg (show 0 ≤ -a by omega) (show 0 ≤ b by omega)
  omega
theorem bm {a : Int} (h1 : -2147483648 ≤ a) (h2 : a ≤ 2147483647) : a.bmod (2 ^ 32) = a := by
  apply Int.bmod_eq_of_le <;> omega
theorem rem_int {x y : Int32} (hy : 1 ≤ y.toInt) : (x / y).toInt = x.toInt.tdiv y.toInt ∧ (x / y * y).toInt = x.toInt.tdiv y.toInt * y.toInt ∧ (x - x / y * y).toInt = x.toInt.tmod y.toInt := by
  have hx1 := Int32.le_toInt x
  have hx2 := Int32.toInt_lt x
  obtain ⟨e, p, n⟩ := tdiv_bd (a := x.toInt) hy
  have hq : -2147483648 ≤ x.toInt.tdiv y.toInt * y.toInt ∧ x.toInt.tdiv y.toInt * y.toInt ≤ 2147483647 := by
    rcases Int.lt_or_le x.toInt 0 with h | h
    · have h3 := n h
      have := Int.mul_le_mul_of_nonneg_right h3.2.2 (show 0 ≤ y.toInt by omega)
      omega
    · have h3 := p h
      have := Int.mul_nonneg h3.2.2 (show 0 ≤ y.toInt by omega)
      omega
  have hd : -2147483648 ≤ x.toInt.tdiv y.toInt ∧ x.toInt.tdiv y.toInt ≤ 2147483647 := by
    rcases Int.lt_or_le x.toInt 0 with h | h
    · obtain ⟨-, -, h3⟩ := n h
      refine ⟨?_, by omega⟩
      have : x.toInt.tdiv y.toInt * y.toInt ≤ x.toInt.tdiv y.toInt * 1 := Int.mul_le_mul_of_nonpos_left h3 hy
      omega
    · obtain ⟨-, -, h3⟩ := p h
      refine ⟨by omega, ?_⟩
      have : x.toInt.tdiv y.toInt * 1 ≤ x.toInt.tdiv y.toInt * y.toInt := Int.mul_le_mul_of_nonneg_left hy h3
      omega
  have e1 : (x / y).toInt = x.toInt.tdiv y.toInt := by
    rw [Int32.toInt_div]
    exact bm hd.1 hd.2
  have e2 : (x / y * y).toInt = x.toInt.tdiv y.toInt * y.toInt := by
    rw [Int32.toInt_mul, e1]
    exact bm hq.1 hq.2
  refine ⟨e1, e2, ?_⟩
  rw [Int32.toInt_sub, e2]
  rw [show x.toInt - x.toInt.tdiv y.toInt * y.toInt = x.toInt.tmod y.toInt by omega]
  rcases Int.lt_or_le x.toInt 0 with h | h
  · have := n h
    have := Int32.toInt_lt y
    exact bm (by omega) (by omega)
  · have := p h
    have := Int32.toInt_lt y
    exact bm (by omega) (by omega)
theorem xor_sg {x y : Int32} (hy : 0 ≤ y.toInt) : (0 ≤ x ^^^ y) ↔ 0 ≤ x := by
  have h0 : ∀ v : Int32, (0 : Int32) ≤ v ↔ v.toBitVec.msb = false := by
    intro v
    rw [Int32.le_iff_toInt_le, show (0 : Int32).toInt = 0 from rfl]
    have : v.toBitVec.msb = decide (v.toBitVec.toInt < 0) := BitVec.msb_eq_toInt
    rw [this, show v.toBitVec.toInt = v.toInt from rfl]
    simp
  rw [h0, h0, Int32.toBitVec_xor, BitVec.msb_xor]
  have hy' : y.toBitVec.msb = false := (h0 y).mp (Int32.le_iff_toInt_le.mpr (by rw [show (0 : Int32).toInt = 0 from rfl]; exact hy))
  rw [hy', Bool.xor_false]
/-- the place in a turn, by the class and by the reference -/
theorem mod_pl {x y : Int32} (hy : 1 ≤ y.toInt) : f_J9_floorMod_7cf53 x y = (if 0 ≤ x - x / y * y then x - x / y * y else x - x / y * y + y) ∧ 0 ≤ (f_J9_floorMod_7cf53 x y).toInt ∧ (f_J9_floorMod_7cf53 x y).toInt < y.toInt := by
  obtain ⟨-, -, hr⟩ := rem_int (x := x) hy
  obtain ⟨e, p, n⟩ := tdiv_bd (a := x.toInt) hy
  have hx0 : 0 ≤ x ↔ 0 ≤ x.toInt := by rw [Int32.le_iff_toInt_le]; rfl
  have hr0 : 0 ≤ x - x / y * y ↔ 0 ≤ (x - x / y * y).toInt := by rw [Int32.le_iff_toInt_le]; rfl
  have hrz : x - x / y * y = 0 ↔ (x - x / y * y).toInt = 0 := by rw [← Int32.toInt_inj]; rfl
  have hy2 := Int32.toInt_lt y
  unfold f_J9_floorMod_7cf53
  by_cases hx : 0 ≤ x
  · have hp := p (hx0.mp hx)
    rw [if_pos ((xor_sg (by omega)).mpr hx), if_pos (hr0.mpr (by omega))]
    exact ⟨rfl, by omega, by omega⟩
  · have hn := n (by have := mt hx0.mpr hx; omega)
    rw [if_neg (mt (xor_sg (by omega)).mp hx)]
    by_cases hz : x - x / y * y = 0
    · rw [if_pos hz, if_pos (by rw [hz]; decide)]
      exact ⟨rfl, by rw [hz]; decide, by rw [hz]; show (0 : Int) < _; omega⟩
    · have hz' := mt hrz.mpr hz
      rw [if_neg hz, if_neg (fun h => by have := hr0.mp h; omega)]
      have e3 : (x - x / y * y + y).toInt = (x - x / y * y).toInt + y.toInt := by
        rw [Int32.toInt_add]
        exact bm (by omega) (by omega)
      exact ⟨rfl, by omega, by omega⟩
/-- a snail that is there -/
theorem num_ok {σ : Sg} {j : Nat} (hj : j < 4) : x_X5_snailNumbered σ 0 (nI j) = 0 ∧ f_X5_snailNumbered σ 0 (nI j) = 1 + 1 + 3 * j := by
  have : j = 0 ∨ j = 1 ∨ j = 2 ∨ j = 3 := by omega
  rcases this with rfl | rfl | rfl | rfl <;> exact ⟨rfl, rfl⟩
theorem kd_sn {j : Nat} (hj : j < 4) : kd (1 + 1 + 3 * j) = 4 := by
  have : j = 0 ∨ j = 1 ∨ j = 2 ∨ j = 3 := by omega
  rcases this with rfl | rfl | rfl | rfl <;> rfl
theorem ct_of {x : Int32} (h1 : 4 ≤ x.toInt) (h2 : x.toInt ≤ 400) (h3 : x - x / 4 * 4 = 0) : CT x := by
  have h := (rem_int (x := x) (y := 4) (by decide)).2.2
  rw [h3, show (0 : Int32).toInt = 0 from rfl, show (4 : Int32).toInt = 4 from rfl] at h
  have e := (tdiv_bd (a := x.toInt) (b := 4) (by omega)).1
  refine ⟨(x.toInt.tdiv 4).toNat, by omega, by omega, ?_⟩
  apply Int32.toInt_inj.mp
  rw [nI_int (by omega)]
  omega
def wayOf (y : Int32) : Int32 := if 0 ≤ y then 1 else -1
theorem wayOf_v (y : Int32) : wayOf y = 1 ∨ wayOf y = -1 := by
  unfold wayOf
  split
  · exact Or.inl rfl
  · exact Or.inr rfl
end
section
/-! one snail, its log with the newest entry first -/
def psh (E : Nat → Nat → Int32) (v w u : Int32) : Nat → Nat → Int32 := fun i => match i with
  | 0 => fun c => if c = 0 then v else if c = 1 then w else u
  | i + 1 => E i
def EN (E : Nat → Nat → Int32) (s : Int32) (i : Nat) : Prop := (E i 2 ^^^ (if i = 0 then s else E (i - 1) 2) = 0 → E i 0 = 0) ∧ (-2 ≤ (E i 0).toInt ∧ (E i 0).toInt ≤ 2) ∧ (1 ≤ (E i 1).toInt ∧ (E i 1).toInt ≤ 1000) ∧ St (E i 2)
def LgN (σ : Sg) (q : Nat) (s : Int32) (E : Nat → Nat → Int32) (L O : Nat) : Prop := L ≤ 16 ∧ O < 16 ∧ σ q 2 = nI L ∧ σ q 1 = nI O ∧ (∀ i, i < L → ∀ c, c < 3 → σ (q + 1) ((O + (L - 1 - i)) % 16 * 3 + c) = E i c) ∧ ∀ i, i < L → EN E s i
/-- the accounts -/
def AC (B : Nat) (f : Nat → Int32) : Prop := (0 ≤ (f 9).toInt ∧ (f 9).toInt ≤ B) ∧ (0 ≤ (f 10).toInt ∧ (f 10).toInt ≤ B) ∧ (0 ≤ (f 11).toInt ∧ (f 11).toInt ≤ B) ∧ -((f 10).toInt + (f 9).toInt) ≤ (f 2).toInt ∧ (f 2).toInt ≤ (f 10).toInt + (f 9).toInt
def SnN (σ : Sg) (k : Nat) (E : Nat → Nat → Int32) (L B : Nat) : Prop := St (σ k 1) ∧ Dr (σ k 3) ∧ σ k 4 + σ k 5 + σ k 6 - σ k 7 = σ k 2 ∧ AC B (σ k) ∧ ∃ O, LgN σ (k + 1) (σ k 1) E L O
theorem LgN.cg {σ σ' : Sg} {q : Nat} {s : Int32} {E : Nat → Nat → Int32} {L O : Nat} (h : LgN σ q s E L O) (e1 : σ' q = σ q) (e2 : σ' (q + 1) = σ (q + 1)) : LgN σ' q s E L O := by
  obtain ⟨h1, h2, h3, h4, h6, h7⟩ := h
  exact ⟨h1, h2, by rw [e1]; exact h3, by rw [e1]; exact h4, fun i hi c hc => by rw [e2]; exact h6 i hi c hc, h7⟩
theorem AC.mono {B B' : Nat} {f : Nat → Int32} (h : AC B f) (hB : B ≤ B') : AC B' f := by
  obtain ⟨h1, h2, h3, h4, h5⟩ := h
  exact ⟨⟨h1.1, by omega⟩, ⟨h2.1, by omega⟩, ⟨h3.1, by omega⟩, h4, h5⟩
theorem SnN.cg {σ σ' : Sg} {k : Nat} {E : Nat → Nat → Int32} {L B B' : Nat} (h : SnN σ k E L B) (e0 : σ' k = σ k) (e1 : σ' (k + 1) = σ (k + 1)) (e2 : σ' (k + 2) = σ (k + 2)) (hB : B ≤ B') : SnN σ' k E L B' := by
  obtain ⟨h1, h2, h3, h4, O, h5⟩ := h
  unfold SnN
  rw [e0]
  exact ⟨h1, h2, h3, h4.mono hB, O, h5.cg e1 e2⟩
theorem lg_push {σ : Sg} {q : Nat} {s s' : Int32} {E : Nat → Nat → Int32} {L O : Nat} {x y : Int32} (h : LgN σ q s E L O) (hx : -2 ≤ x.toInt ∧ x.toInt ≤ 2) (hy : 1 ≤ y.toInt ∧ y.toInt ≤ 1000) (hs : St s) (hch : s ^^^ s' = 0 → x = 0) :
    LgN (s_X1_add σ q x y s) q s' (psh E x y s) (lL L) (lO O L) := by
  obtain ⟨h1, h2, h3, h4, h6, h7⟩ := h
  rw [add_eq h4 h2 h3 h1]
  have hLL : lL L ≤ 16 ∧ 1 ≤ lL L ∧ lL L ≤ L + 1 := by unfold lL; split <;> omega
  have hOO : lO O L < 16 := by unfold lO; split <;> omega
  have hrow : (lO O L + (lL L - 1)) % 16 = (O + L) % 16 := by
    unfold lO lL
    by_cases c : L = 16
    · rw [if_pos c, if_pos c, c]; omega
    · rw [if_neg c, if_neg c]; omega
  refine ⟨hLL.1, hOO, ?_, ?_, ?_, ?_⟩
  · rw [up_ne (by omega), up_ne (by omega), up_ne (by omega), up_eq]
  · rw [up_ne (by omega), up_ne (by omega), up_ne (by omega), up_nb (by decide), up_eq]
  · intro i hi c hc
    cases i with
    | zero =>
      rw [Nat.sub_zero, hrow]
      have hc3 : c = 0 ∨ c = 1 ∨ c = 2 := by omega
      rcases hc3 with rfl | rfl | rfl
      · rw [up_nb (by omega), up_nb (by omega)]; exact up_eq
      · rw [up_nb (by omega)]; exact up_eq
      · exact up_eq
    | succ i =>
      have hr : (lO O L + (lL L - 1 - (i + 1))) % 16 = (O + (L - 1 - i)) % 16 := by
        unfold lO lL at *
        by_cases cL : L = 16
        · rw [if_pos cL] at *; omega
        · rw [if_neg cL] at *; omega
      have hiL : i < L := by omega
      have hne : (O + (L - 1 - i)) % 16 ≠ (O + L) % 16 := by
        unfold lL at hi
        by_cases cL : L = 16
        · rw [if_pos cL] at hi; omega
        · omega
      rw [hr, up_nb (by omega), up_nb (by omega), up_nb (by omega), up_ne (by omega), up_ne (by omega)]
      exact h6 i hiL c hc
  · intro i hi
    cases i with
    | zero => exact ⟨fun q => hch q, hx, hy, hs⟩
    | succ i =>
      have hh := h7 i (by omega)
      unfold EN at hh ⊢
      rw [if_neg (Nat.succ_ne_zero i)]
      cases i with
      | zero => exact hh
      | succ i =>
        rw [if_neg (Nat.succ_ne_zero i)] at hh
        exact hh
theorem lg_pop {σ σ' : Sg} {q : Nat} {s : Int32} {E : Nat → Nat → Int32} {L O : Nat} (h : LgN σ q s E L O) (hL : 1 ≤ L) (e2 : σ' q 2 = nI (L - 1)) (e1 : σ' q 1 = σ q 1) (ec : σ' (q + 1) = σ (q + 1)) : LgN σ' q (E 0 2) (fun i => E (i + 1)) (L - 1) O := by
  obtain ⟨h1, h2, h3, h4, h6, h7⟩ := h
  refine ⟨by omega, h2, e2, by rw [e1]; exact h4, ?_, ?_⟩
  · intro i hi c hc
    rw [ec, show L - 1 - 1 - i = L - 1 - (i + 1) by omega]
    exact h6 (i + 1) (by omega) c hc
  · intro i hi
    have hh := h7 (i + 1) (by omega)
    unfold EN at hh ⊢
    rw [if_neg (Nat.succ_ne_zero i)] at hh
    cases i with
    | zero => exact hh
    | succ i =>
      rw [if_neg (Nat.succ_ne_zero i)]
      exact hh
theorem le0 {v : Int32} : (0 : Int32) ≤ v ↔ 0 ≤ v.toInt := by rw [Int32.le_iff_toInt_le]; rfl
theorem ab_int {v : Int32} {M : Nat} (h : -(M : Int) ≤ v.toInt ∧ v.toInt ≤ M) (hM : M ≤ 2000000000) : (0 ≤ v.toInt → (ab v).toInt = v.toInt) ∧ (v.toInt < 0 → (ab v).toInt = -v.toInt) := by
  unfold ab
  refine ⟨fun q => ?_, fun q => ?_⟩
  · rw [if_pos (le0.mpr q)]
  · rw [if_neg (fun p => by have := le0.mp p; omega), Int32.toInt_sub, show (0 : Int32).toInt = 0 from rfl, bm (by omega) (by omega)]
    omega
theorem ac_move {B : Nat} {f f' : Nat → Int32} {v w : Int32} (h : AC B f) (hv : -2 ≤ v.toInt ∧ v.toInt ≤ 2) (hw : 1 ≤ w.toInt ∧ w.toInt ≤ 1000) (hB : B + 1000 ≤ 1000000000) (e2 : f' 2 = f 2 + v) (e9 : f' 9 = f 9) (e10 : f' 10 = f 10 + ab v) (e11 : f' 11 = f 11 + w) : AC (B + 1000) f' := by
  obtain ⟨h1, h2, h3, h4, h5⟩ := h
  obtain ⟨a1, a2⟩ := ab_int (v := v) (M := 2) ⟨by omega, by omega⟩ (by omega)
  have ha : 0 ≤ (ab v).toInt ∧ (ab v).toInt ≤ 2 ∧ -(ab v).toInt ≤ v.toInt ∧ v.toInt ≤ (ab v).toInt := by
    rcases Int.lt_or_le v.toInt 0 with q | q
    · have := a2 q; omega
    · have := a1 q; omega
  have g2 : (f' 2).toInt = (f 2).toInt + v.toInt := by rw [e2, Int32.toInt_add]; exact bm (by omega) (by omega)
  have g10 : (f' 10).toInt = (f 10).toInt + (ab v).toInt := by rw [e10, Int32.toInt_add]; exact bm (by omega) (by omega)
  have g11 : (f' 11).toInt = (f 11).toInt + w.toInt := by rw [e11, Int32.toInt_add]; exact bm (by omega) (by omega)
  unfold AC
  rw [e9, g2, g10, g11]
  omega
theorem mv_sum {σ : Sg} {k : Nat} {x y w : Int32} (hu : St (σ k 1)) (hx : St x) (h9 : σ k 4 + σ k 5 + σ k 6 - σ k 7 = σ k 2) (hy : σ k 1 ^^^ x = 0 → y = 0) :
    (mvK σ k x y w 4 + mvK σ k x y w 5 + mvK σ k x y w 6 - mvK σ k x y w 7 = mvK σ k x y w 2) := by
  show (if σ k 1 ^^^ x = 2 then σ k 4 + y else σ k 4) + (if σ k 1 ^^^ x = 1 then σ k 5 + y else σ k 5) + (if σ k 1 ^^^ x = 3 then σ k 6 + y else σ k 6) - σ k 7 = σ k 2 + y
  rw [← h9]
  rcases st_xor hu hx with q | q | q | q
  · rw [q, hy q]
    simp
  · rw [q, if_neg (by decide), if_pos rfl, if_neg (by decide)]
    exact i32_b
  · rw [q, if_pos rfl, if_neg (by decide), if_neg (by decide)]
    exact i32_a
  · rw [q, if_neg (by decide), if_neg (by decide), if_pos rfl]
    exact i32_c
/-- a snail's words after a feeling -/
def snK (σ : Sg) (k : Nat) (y v w : Int32) : Nat → Int32 := fun a => if a = 8 then (if σ k 1 ^^^ y = 3 then σ k 8 + 1 else σ k 8) else mvK σ k y v w a
theorem sn_feel {σ : Sg} {k : Nat} {E : Nat → Nat → Int32} {L B : Nat} {y v w : Int32} (h : SnN σ k E L B) (hy : St y) (hv : Mv (σ k 1) y v) (hw : 1 ≤ w.toInt ∧ w.toInt ≤ 1000) (hB : B + 1000 ≤ 1000000000) :
    SnN (s_X4_sense σ k y v w) k (psh E v w (σ k 1)) (lL L) (B + 1000) ∧ s_X4_sense σ k y v w k = snK σ k y v w ∧ ∀ q, q ≠ k → q ≠ k + 1 → q ≠ k + 2 → s_X4_sense σ k y v w q = σ q := by
  obtain ⟨s1, s2, s3, s4, O, hL⟩ := h
  have hL' := hL
  obtain ⟨l1, l2, l3, l4, -, -⟩ := hL
  have key : ∀ σ0 : Sg, (∀ q, q ≠ k → σ0 q = σ q) → (∀ a, a ≠ 8 → σ0 k a = σ k a) → (σ0 k 8 = if σ k 1 ^^^ y = 3 then σ k 8 + 1 else σ k 8) → SnN (s_X4_move (s_X1_add σ0 (k + 1) v w (σ k 1)) k y v w) k (psh E v w (σ k 1)) (lL L) (B + 1000) ∧ s_X4_move (s_X1_add σ0 (k + 1) v w (σ k 1)) k y v w k = snK σ k y v w ∧ ∀ q, q ≠ k → q ≠ k + 1 → q ≠ k + 2 → s_X4_move (s_X1_add σ0 (k + 1) v w (σ k 1)) k y v w q = σ q := by
    intro σ0 g1 g2 g3
    have hL0 : LgN σ0 (k + 1) (σ k 1) E L O := hL'.cg (g1 _ (by omega)) (g1 _ (by omega))
    have hk : s_X1_add σ0 (k + 1) v w (σ k 1) k = σ0 k := add_ne (by rw [g1 _ (by omega)]; exact l4) l2 (by rw [g1 _ (by omega)]; exact l3) l1 (by omega) (by omega)
    have hwd : s_X4_move (s_X1_add σ0 (k + 1) v w (σ k 1)) k y v w k = snK σ k y v w := by
      funext a
      rw [move_k]
      unfold snK
      by_cases ha : a = 8
      · subst ha
        rw [if_pos rfl, ← g3, ← hk]
        rfl
      · rw [if_neg ha]
        unfold mvK
        simp only [hk, g2 1 (by decide), g2 2 (by decide), g2 3 (by decide), g2 4 (by decide), g2 5 (by decide), g2 6 (by decide), g2 10 (by decide), g2 11 (by decide), g2 a ha]
    refine ⟨?_, hwd, ?_⟩
    · unfold SnN
      rw [hwd]
      refine ⟨hy, dirOf_dr s2, mv_sum (w := w) s1 hy s3 hv.1, ac_move s4 hv.2 hw hB rfl rfl rfl rfl, lO O L, ?_⟩
      exact (lg_push (s' := y) hL0 hv.2 hw s1 hv.1).cg (move_ne (by omega)) (move_ne (by omega))
    · intro q q1 q2 q3
      rw [move_ne q1, add_ne (by rw [g1 _ (by omega)]; exact l4) l2 (by rw [g1 _ (by omega)]; exact l3) l1 q2 q3, g1 q q1]
  unfold s_X4_sense
  by_cases c : σ k 1 ^^^ y = 3
  · rw [if_pos c]
    have e : (up σ k 8 (σ k 8 + 1)) k 1 = σ k 1 := up_nb (by decide)
    rw [e]
    exact key (up σ k 8 (σ k 8 + 1)) (fun q hq => up_ne hq) (fun a ha => up_nb ha) (by rw [up_eq, if_pos c])
  · rw [if_neg c]
    exact key σ (fun _ _ => rfl) (fun _ _ => rfl) (by rw [if_neg c])
/-- one entry back -/
def bkS (σ : Sg) (k : Nat) : Sg := s_X1_dropLatest (s_X4_move σ k (f_X1_before σ (k + 1) ((σ (k + 1) 2) - 1)) (-(f_X1_step σ (k + 1) ((σ (k + 1) 2) - 1))) (f_X1_spent σ (k + 1) ((σ (k + 1) 2) - 1))) (k + 1)
theorem neg_int {v : Int32} (h : -2 ≤ v.toInt ∧ v.toInt ≤ 2) : (-v).toInt = -v.toInt := by
  rw [Int32.toInt_neg]
  exact bm (by omega) (by omega)
theorem ab_neg {v : Int32} (h : -2 ≤ v.toInt ∧ v.toInt ≤ 2) : ab (-v) = ab v := by
  have hn := neg_int h
  obtain ⟨a1, a2⟩ := ab_int (v := v) (M := 2) ⟨by omega, by omega⟩ (by omega)
  obtain ⟨b1, b2⟩ := ab_int (v := -v) (M := 2) ⟨by omega, by omega⟩ (by omega)
  apply Int32.toInt_inj.mp
  rcases Int.lt_trichotomy v.toInt 0 with q | q | q
  · rw [a2 q, b1 (by omega), hn]
  · rw [a1 (by omega), b1 (by omega), hn]
    omega
  · rw [a1 (by omega), b2 (by omega), hn]
    omega
theorem sn_back {σ : Sg} {k : Nat} {E : Nat → Nat → Int32} {L B : Nat} (h : SnN σ k E L B) (hL1 : 1 ≤ L) (hB : B + 1000 ≤ 1000000000) :
    SnN (bkS σ k) k (fun i => E (i + 1)) (L - 1) (B + 1000) ∧ bkS σ k k = mvK σ k (E 0 2) (-(E 0 0)) (E 0 1) ∧ ∀ q, q ≠ k → q ≠ k + 1 → bkS σ k q = σ q := by
  obtain ⟨s1, s2, s3, s4, O, hL⟩ := h
  have hL' := hL
  obtain ⟨l1, l2, l3, l4, l6, l7⟩ := hL
  have e1 : σ (k + 1) 2 - 1 = nI (L - 1) := by rw [l3]; exact pk_sub (a := L) (b := 1) hL1
  have hfs : f_X1_step σ (k + 1) ((σ (k + 1) 2) - 1) = E 0 0 := by rw [e1, step_nI l4 (by omega)]; exact l6 0 (by omega) 0 (by omega)
  have hfp : f_X1_spent σ (k + 1) ((σ (k + 1) 2) - 1) = E 0 1 := by rw [e1, spent_nI l4 (by omega)]; exact l6 0 (by omega) 1 (by omega)
  have hfb : f_X1_before σ (k + 1) ((σ (k + 1) 2) - 1) = E 0 2 := by rw [e1, before_nI l4 (by omega)]; exact l6 0 (by omega) 2 (by omega)
  obtain ⟨n1, n2, n3, n4⟩ := l7 0 (by omega)
  rw [if_pos rfl] at n1
  have hdef : bkS σ k = up (s_X4_move σ k (E 0 2) (-(E 0 0)) (E 0 1)) (k + 1) 2 (nI (L - 1)) := by
    unfold bkS
    rw [hfs, hfp, hfb]
    unfold s_X1_dropLatest
    have hne : ¬ (s_X4_move σ k (E 0 2) (-(E 0 0)) (E 0 1)) (k + 1) 2 ≤ 0 := by
      rw [move_ne (by omega), l3, show (0 : Int32) = nI 0 from rfl, nI_leI (by omega) (by omega)]
      omega
    rw [if_neg hne, move_ne (show k + 1 ≠ k by omega), e1]
  have hk : bkS σ k k = mvK σ k (E 0 2) (-(E 0 0)) (E 0 1) := by
    rw [hdef, up_ne (by omega)]
    funext a
    exact move_k
  have hz : σ k 1 ^^^ E 0 2 = 0 → -(E 0 0) = 0 := fun q => by rw [n1 (by rw [st_comm n4 s1]; exact q)]; decide
  have hn := neg_int n2
  refine ⟨?_, hk, ?_⟩
  · unfold SnN
    rw [hk]
    refine ⟨n4, dirOf_dr s2, mv_sum (w := E 0 1) s1 n4 s3 hz, ac_move s4 ⟨by omega, by omega⟩ n3 hB rfl rfl rfl rfl, O, ?_⟩
    exact lg_pop hL' hL1 (by rw [hdef, up_eq]) (by rw [hdef, up_nb (by decide), move_ne (by omega)]) (by rw [hdef, up_ne (by omega), move_ne (by omega)])
  · intro q q1 q2
    rw [hdef, up_ne q2, move_ne q1]
/-- sums over the newest entries -/
def PS (E : Nat → Nat → Int32) : Nat → Int32
  | 0 => 0
  | m + 1 => PS E m + E m 0
def PA (E : Nat → Nat → Int32) : Nat → Int32
  | 0 => 0
  | m + 1 => PA E m + ab (E m 0)
theorem PS_s (E : Nat → Nat → Int32) : ∀ m, PS E (m + 1) = E 0 0 + PS (fun i => E (i + 1)) m := by
  intro m
  induction m with
  | zero => show 0 + E 0 0 = E 0 0 + 0; grind
  | succ m ih =>
    show PS E (m + 1) + E (m + 1) 0 = E 0 0 + (PS (fun i => E (i + 1)) m + E (m + 1) 0)
    rw [ih]
    grind
theorem PA_s (E : Nat → Nat → Int32) : ∀ m, PA E (m + 1) = ab (E 0 0) + PA (fun i => E (i + 1)) m := by
  intro m
  induction m with
  | zero => show 0 + ab (E 0 0) = ab (E 0 0) + 0; grind
  | succ m ih =>
    show PA E (m + 1) + ab (E (m + 1) 0) = ab (E 0 0) + (PA (fun i => E (i + 1)) m + ab (E (m + 1) 0))
    rw [ih]
    grind
/-- state, position, the count of track A, as the ways back leave them -/
def bk3 : Nat → (Nat → Nat → Int32) → Int32 × Int32 × Int32 → Int32 × Int32 × Int32
  | 0, _, t => t
  | m + 1, E, t => bk3 m (fun i => E (i + 1)) (E 0 2, t.2.1 + -(E 0 0), if t.1 ^^^ E 0 2 = 2 then t.2.2 + -(E 0 0) else t.2.2)
theorem sn_retr {k f : Nat} (hf : f ≤ 1000) : ∀ (m n i : Nat) (σ : Sg) (E : Nat → Nat → Int32) (L B : Nat), m + i = f → f + 1 ≤ i + n → m ≤ L → SnN σ k E L B → B + 1000 * m ≤ 1000000000 →
    SnN (gs_X4_retrace k (nI f) n i σ) k (fun i => E (i + m)) (L - m) (B + 1000 * m) ∧ gs_X4_retrace k (nI f) n i σ k 2 = σ k 2 - PS E m ∧ gs_X4_retrace k (nI f) n i σ k 10 = σ k 10 + PA E m ∧ gs_X4_retrace k (nI f) n i σ k 8 = σ k 8 ∧ (gs_X4_retrace k (nI f) n i σ k 1, gs_X4_retrace k (nI f) n i σ k 2, gs_X4_retrace k (nI f) n i σ k 4) = bk3 m E (σ k 1, σ k 2, σ k 4) ∧ ∀ q, q ≠ k → q ≠ k + 1 → gs_X4_retrace k (nI f) n i σ q = σ q := by
  intro m
  induction m with
  | zero =>
    intro n i σ E L B h1 h2 h3 hS hB
    obtain ⟨n, rfl⟩ : ∃ a, n = a + 1 := ⟨n - 1, by omega⟩
    have hi : i = f := by omega
    subst hi
    rw [gs_X4_retrace, if_pos ((nI_leI (by omega) (by omega)).mpr (Nat.le_refl _))]
    refine ⟨hS, ?_, ?_, rfl, rfl, fun _ _ _ => rfl⟩
    · show σ k 2 = σ k 2 - 0; grind
    · show σ k 10 = σ k 10 + 0; grind
  | succ m ih =>
    intro n i σ E L B h1 h2 h3 hS hB
    obtain ⟨n, rfl⟩ : ∃ a, n = a + 1 := ⟨n - 1, by omega⟩
    have hB1 : B + 1000 ≤ 1000000000 := Nat.le_trans (Nat.add_le_add_left (Nat.le_mul_of_pos_right 1000 (Nat.succ_pos m)) B) hB
    have hB2 : B + 1000 + 1000 * m ≤ 1000000000 := by rw [Nat.add_assoc, show 1000 + 1000 * m = 1000 * (m + 1) by rw [Nat.mul_add, Nat.mul_one, Nat.add_comm]]; exact hB
    clear hB
    have hL1 : 1 ≤ L := by omega
    have hne : ¬ nI f ≤ nI i := by
      rw [nI_leI (by omega) (by omega)]
      omega
    obtain ⟨n1, n2, n3, n4⟩ := hS.2.2.2.2.choose_spec.2.2.2.2.2 0 (by omega)
    obtain ⟨b1, b2, b3⟩ := sn_back hS hL1 hB1
    have hg : gs_X4_retrace k (nI f) (n + 1) i σ = gs_X4_retrace k (nI f) n (i + 1) (bkS σ k) := by
      rw [gs_X4_retrace, if_neg hne]
      rfl
    obtain ⟨c1, c2, c3, c4, c5, c6⟩ := ih n (i + 1) (bkS σ k) _ (L - 1) (B + 1000) (by omega) (by omega) (by omega) b1 hB2
    rw [hg]
    have w2 : bkS σ k k 2 = σ k 2 + -(E 0 0) := by rw [b2]; rfl
    have w10 : bkS σ k k 10 = σ k 10 + ab (-(E 0 0)) := by rw [b2]; rfl
    refine ⟨?_, ?_, ?_, ?_, ?_, fun q q1 q2 => (c6 q q1 q2).trans (b3 q q1 q2)⟩
    · have e : (fun i => E (i + (m + 1))) = fun i => (fun i => E (i + 1)) (i + m) := by
        funext i
        show E (i + (m + 1)) = E (i + m + 1)
        rfl
      rw [e, show L - (m + 1) = L - 1 - m by omega, show B + 1000 * (m + 1) = B + 1000 + 1000 * m by rw [Nat.add_assoc, Nat.mul_add, Nat.mul_one, Nat.add_comm 1000]]
      exact c1
    · rw [c2, w2, PS_s]
      grind
    · rw [c3, w10, ab_neg n2, PA_s]
      grind
    · rw [c4, b2]
      rfl
    · rw [c5, b2]
      rfl
end
section
/-! the garden, and the calls that change it -/
theorem fl_int {x y : Int32} (hy : 1 ≤ y.toInt) (hy4 : y.toInt ≤ 400) : (f_J9_floorDiv_7cf53 x y).toInt = x.toInt / y.toInt ∧ (f_J9_floorMod_7cf53 x y).toInt = x.toInt % y.toInt := by
  obtain ⟨hd, hq, hr⟩ := rem_int (x := x) hy
  obtain ⟨e, p, n⟩ := tdiv_bd (a := x.toInt) hy
  have hx1 := Int32.le_toInt x
  have hx2 := Int32.toInt_lt x
  have hx0 : 0 ≤ x ↔ 0 ≤ x.toInt := le0
  have hrz : x - x / y * y = 0 ↔ (x - x / y * y).toInt = 0 := by rw [← Int32.toInt_inj]; rfl
  have hqx : x / y * y = x ↔ x.toInt.tdiv y.toInt * y.toInt = x.toInt := by rw [← Int32.toInt_inj, hq]
  have key : ∀ a m : Int, a + y.toInt * m = x.toInt → 0 ≤ a → a < y.toInt → x.toInt / y.toInt = m ∧ x.toInt % y.toInt = a := fun a m h1 h2 h3 => (Int.ediv_emod_unique (by omega)).mpr ⟨h1, h2, h3⟩
  have hc : y.toInt * x.toInt.tdiv y.toInt = x.toInt.tdiv y.toInt * y.toInt := Int.mul_comm _ _
  unfold f_J9_floorDiv_7cf53 f_J9_floorMod_7cf53
  by_cases h : 0 ≤ x
  · have hp := p (hx0.mp h)
    obtain ⟨k1, k2⟩ := key (x.toInt.tmod y.toInt) (x.toInt.tdiv y.toInt) (by omega) hp.1 hp.2.1
    rw [if_pos ((xor_sg (by omega)).mpr h), if_pos ((xor_sg (by omega)).mpr h), hd, hr, k1, k2]
    exact ⟨rfl, rfl⟩
  · have hn := n (by have := mt hx0.mpr h; omega)
    rw [if_neg (mt (xor_sg (by omega)).mp h), if_neg (mt (xor_sg (by omega)).mp h)]
    by_cases hz : x.toInt.tmod y.toInt = 0
    · obtain ⟨k1, k2⟩ := key 0 (x.toInt.tdiv y.toInt) (by omega) (by omega) (by omega)
      rw [if_pos (hqx.mpr (by omega)), if_pos (hrz.mpr (by rw [hr]; exact hz)), hd, hr, k1, k2]
      exact ⟨rfl, hz⟩
    · obtain ⟨k1, k2⟩ := key (x.toInt.tmod y.toInt + y.toInt) (x.toInt.tdiv y.toInt - 1) (by rw [Int.mul_sub, Int.mul_one]; omega) (by omega) (by omega)
      rw [if_neg (fun q => by have := hqx.mp q; omega), if_neg (fun q => hz (by rw [← hr]; exact hrz.mp q)), k1, k2]
      constructor
      · rw [Int32.toInt_sub, hd, show (1 : Int32).toInt = 1 from rfl]
        refine bm ?_ (by omega)
        have : x.toInt.tdiv y.toInt * y.toInt ≤ x.toInt.tdiv y.toInt * 1 := Int.mul_le_mul_of_nonpos_left hn.2.2 hy
        omega
      · rw [Int32.toInt_add, hr]
        exact bm (by omega) (by omega)
def GN (B : Nat) (σ : Sg) : Prop := (∀ j, j < 4 → ∃ (E : Nat → Nat → Int32) (L : Nat), SnN σ (1 + 1 + 3 * j) E L B) ∧ Ru (σ 1 4) ∧ CT (σ 1 5) ∧ LGA σ
theorem latest_ge (σ : Sg) : 41 ≤ f_X3_latest σ 40 := by
  unfold f_X3_latest
  repeat' split
  all_goals omega
theorem keep_ne {σ : Sg} {q : Nat} (hq : q < 40) : s_X3_keep σ 40 1 q = σ q := by
  unfold s_X3_keep
  split
  · exact fr_copy0 (P := fun q => 40 ≤ q) (Fr.rf.up (Nat.le_refl 40)) (fun q hq => Nat.le_trans (Nat.le_trans (by omega) (latest_ge _)) hq.1) q (by omega)
  · exact fr_copy0 (P := fun q => 40 ≤ q) (Fr.rf.up (Nat.le_refl 40)) (fun q hq => Nat.le_trans (Nat.le_trans (by omega) (latest_ge _)) hq.1) q (by omega)
theorem GN.mono {B B' : Nat} {σ : Sg} (h : GN B σ) (hB : B ≤ B') : GN B' σ := ⟨fun j hj => by
  obtain ⟨E, L, q⟩ := h.1 j hj
  exact ⟨E, L, q.cg rfl rfl rfl hB⟩, h.2⟩
theorem GN.keep {B : Nat} {σ : Sg} (h : GN B σ) : GN B (s_X3_keep σ 40 1) := by
  obtain ⟨h1, h2, h3, h4⟩ := h
  refine ⟨fun j hj => ?_, ?_, ?_, LGA_keep h4 rfl rfl⟩
  · obtain ⟨E, L, q⟩ := h1 j hj
    exact ⟨E, L, q.cg (keep_ne (by omega)) (keep_ne (by omega)) (keep_ne (by omega)) (Nat.le_refl B)⟩
  · rw [keep_ne (by omega)]; exact h2
  · rw [keep_ne (by omega)]; exact h3
/-- one snail has moved -/
theorem GN.one {B B' j : Nat} {σ σ' : Sg} {E : Nat → Nat → Int32} {L : Nat} (h : GN B σ) (hj : j < 4) (hs : ∀ q, q < 40 → q ≠ (1 + 1 + 3 * j) → q ≠ (1 + 1 + 3 * j) + 1 → q ≠ (1 + 1 + 3 * j) + 2 → σ' q = σ q) (hn : SnN σ' (1 + 1 + 3 * j) E L B') (hG : LGA σ') (hB : B ≤ B') : GN B' σ' := by
  obtain ⟨h1, h2, h3, h4⟩ := h
  refine ⟨fun i hi => ?_, ?_, ?_, hG⟩
  · by_cases c : i = j
    · subst c
      exact ⟨E, L, hn⟩
    · obtain ⟨E', L', q⟩ := h1 i hi
      exact ⟨E', L', q.cg (hs _ (by omega) (by omega) (by omega) (by omega)) (hs _ (by omega) (by omega) (by omega) (by omega)) (hs _ (by omega) (by omega) (by omega) (by omega)) hB⟩
  · rw [hs 1 (by omega) (by omega) (by omega) (by omega)]; exact h2
  · rw [hs 1 (by omega) (by omega) (by omega) (by omega)]; exact h3
theorem st_dem {y : Int32} (h : St y) : x_X5_demandState y = 0 := by
  rcases h with rfl | rfl | rfl | rfl <;> rfl
theorem room_ok {σ : Sg} {k B : Nat} {x y : Int32} (h : AC B (σ k)) (hx : 0 ≤ x.toInt ∧ x.toInt ≤ 20000) (hy : 0 ≤ y.toInt ∧ y.toInt ≤ 20000) (hB : B + 20000 ≤ 1000000000) : f_X4_hasRoom σ k x y = 1 := by
  obtain ⟨h1, h2, h3, -, -⟩ := h
  unfold f_X4_hasRoom
  rw [if_neg, if_neg]
  · rw [Int32.lt_iff_toInt_lt, Int32.toInt_add, bm (by omega) (by omega), show (1000000000 : Int32).toInt = 1000000000 from rfl]
    omega
  · rw [Int32.lt_iff_toInt_lt, Int32.toInt_add, bm (by omega) (by omega), show (1000000000 : Int32).toInt = 1000000000 from rfl]
    omega
theorem dem_room {σ : Sg} {k : Nat} {x y : Int32} (h : f_X4_hasRoom σ k x y = 1) : x_X5_demandRoom σ k x y = 0 := by
  unfold x_X5_demandRoom
  rw [h]
  rfl
theorem step_mv {σ : Sg} {k : Nat} {r y : Int32} (s1 : St (σ k 1)) (s2 : Dr (σ k 3)) (hy : St y) : Mv (σ k 1) y (f_X4_stepUnder σ k r y) := by
  unfold f_X4_stepUnder Mv
  refine ⟨fun q => ?_, ?_⟩
  · rw [q, if_neg (by decide), if_pos (st_xor0 s1 hy q)]
  · repeat' split
    · rcases s2 with d | d | d <;> rw [d] <;> decide
    · decide
    · decide
    · decide
    · decide
theorem i1_le {w : Int32} : (1 : Int32) ≤ w ↔ 1 ≤ w.toInt := by rw [Int32.le_iff_toInt_le]; rfl
theorem i1_lt {w : Int32} : w < (1 : Int32) ↔ w.toInt < 1 := by rw [Int32.lt_iff_toInt_lt]; rfl
theorem step_eq {σ σ' : Sg} {k : Nat} {r y : Int32} (h : σ' k = σ k) : f_X4_stepUnder σ' k r y = f_X4_stepUnder σ k r y := by
  unfold f_X4_stepUnder f_X4_neighbour
  rw [h]
/-- a feeling -/
theorem feel_ok {σ : Sg} {B i L : Nat} {y w : Int32} {E : Nat → Nat → Int32} (h : GN B σ) (hS : SnN σ (1 + 1 + 3 * i) E L B) (hi : i < 4) (hy : St y) (hw : 1 ≤ w.toInt ∧ w.toInt ≤ 1000) (hB : B + 20000 ≤ 1000000000) :
    x_X5_feel σ 0 (nI i) y w = 0 ∧ f_X5_feel σ 0 (nI i) y w = f_X4_stepUnder σ (1 + 1 + 3 * i) (σ 1 4) y ∧ GN (B + 1000) (s_X5_feel σ 0 (nI i) y w) ∧ SnN (s_X5_feel σ 0 (nI i) y w) (1 + 1 + 3 * i) (psh E (f_X4_stepUnder σ (1 + 1 + 3 * i) (σ 1 4) y) w (σ (1 + 1 + 3 * i) 1)) (lL L) (B + 1000) ∧ s_X5_feel σ 0 (nI i) y w (1 + 1 + 3 * i) = snK σ (1 + 1 + 3 * i) y (f_X4_stepUnder σ (1 + 1 + 3 * i) (σ 1 4) y) w ∧ s_X5_feel σ 0 (nI i) y w 1 = σ 1 := by
  obtain ⟨n0, n1⟩ := num_ok (σ := σ) hi
  have hmv := step_mv (r := σ 1 4) hS.1 hS.2.1 hy
  obtain ⟨a1, a2⟩ := ab_int (v := f_X4_stepUnder σ (1 + 1 + 3 * i) (σ 1 4) y) (M := 2) ⟨by have := hmv.2; omega, by have := hmv.2; omega⟩ (by omega)
  have ha : 0 ≤ (ab (f_X4_stepUnder σ (1 + 1 + 3 * i) (σ 1 4) y)).toInt ∧ (ab (f_X4_stepUnder σ (1 + 1 + 3 * i) (σ 1 4) y)).toInt ≤ 20000 := by
    have := hmv.2
    rcases Int.lt_or_le (f_X4_stepUnder σ (1 + 1 + 3 * i) (σ 1 4) y).toInt 0 with q | q
    · have := a2 q; omega
    · have := a1 q; omega
  have hr := dem_room (room_ok hS.2.2.2.1 (x := w) (y := ab (f_X4_stepUnder σ (1 + 1 + 3 * i) (σ 1 4) y)) ⟨by omega, by omega⟩ ha hB)
  have d0 := st_dem hy
  have d1 : ¬ w < 1 := fun q => by have := i1_lt.mp q; omega
  have d2 : w ≤ 1000 := by rw [Int32.le_iff_toInt_le]; exact hw.2
  have es : s_X5_feel σ 0 (nI i) y w = s_X4_sense (s_X3_keep σ 40 1) (1 + 1 + 3 * i) y (f_X4_stepUnder σ (1 + 1 + 3 * i) (σ 1 4) y) w := by
    unfold s_X5_feel
    simp only [if_pos n0, n1, Nat.zero_add, if_pos d0, if_neg d1, if_pos d2]
    rw [if_pos hr]
  have hk : s_X3_keep σ 40 1 (1 + 1 + 3 * i) = σ (1 + 1 + 3 * i) := keep_ne (by omega)
  have hS' : SnN (s_X3_keep σ 40 1) (1 + 1 + 3 * i) E L B := hS.cg hk (keep_ne (by omega)) (keep_ne (by omega)) (Nat.le_refl B)
  obtain ⟨f1, f2, f3⟩ := sn_feel (w := w) hS' hy (by rw [hk]; exact hmv) hw (by omega)
  rw [es]
  rw [hk] at f1
  refine ⟨?_, ?_, h.keep.one hi (fun q q0 q1 q2 q3 => f3 q q1 q2 q3) f1 (LGA_sense h.keep.2.2.2 (kd_sn hi)) (by omega), f1, ?_, ?_⟩
  · unfold x_X5_feel
    simp only [if_pos n0, n1, Nat.zero_add, if_pos d0, if_neg d1, if_pos d2]
    rw [if_pos hr]
  · unfold f_X5_feel
    simp only [if_pos n0, n1, Nat.zero_add, if_pos d0, if_neg d1, if_pos d2]
    rw [if_pos hr]
  · rw [f2]
    unfold snK mvK
    rw [hk]
  · rw [f3 1 (by omega) (by omega) (by omega), keep_ne (by omega)]
/-- back by the log -/
theorem can_ok {σ : Sg} {k L O B : Nat} {s : Int32} {E : Nat → Nat → Int32} (hA : AC B (σ k)) (hL : LgN σ (k + 1) s E L O) (hB : B + 20000 ≤ 1000000000) : ∀ (n i : Nat) (x y : Int32), i ≤ L → L + 1 ≤ i + n → (0 ≤ x.toInt ∧ x.toInt ≤ 1000 * i) → (0 ≤ y.toInt ∧ y.toInt ≤ 2 * i) → gf_X4_canRetrace σ k L n x y i = 1 := by
  intro n
  induction n with
  | zero => intro i x y h1 h2; exact absurd h2 (by omega)
  | succ n ih =>
    intro i x y h1 h2 hx hy
    have l1 := hL.1
    rw [gf_X4_canRetrace]
    by_cases c : L ≤ i
    · rw [if_pos c]
      exact room_ok hA ⟨hx.1, by omega⟩ ⟨hy.1, by omega⟩ hB
    · rw [if_neg c]
      have hL' := hL
      obtain ⟨-, l2, l3, l4, l6, l7⟩ := hL
      have es := l6 (L - 1 - i) (by omega) 0 (by omega)
      have ep := l6 (L - 1 - i) (by omega) 1 (by omega)
      obtain ⟨-, n2, n3, -⟩ := l7 (L - 1 - i) (by omega)
      rw [show L - 1 - (L - 1 - i) = i by omega] at es ep
      rw [spent_nI l4 (by omega), step_nI l4 (by omega), es, ep]
      obtain ⟨a1, a2⟩ := ab_int (v := E (L - 1 - i) 0) (M := 2) ⟨by omega, by omega⟩ (by omega)
      refine ih (i + 1) _ _ (by omega) (by omega) ?_ ?_
      · rw [Int32.toInt_add, bm (by omega) (by omega)]
        omega
      · rcases Int.lt_or_le (E (L - 1 - i) 0).toInt 0 with q | q
        · have := a2 q
          rw [Int32.toInt_add, bm (by omega) (by omega)]
          omega
        · have := a1 q
          rw [Int32.toInt_add, bm (by omega) (by omega)]
          omega
theorem back_ok {σ : Sg} {B i L f : Nat} {E : Nat → Nat → Int32} (h : GN B σ) (hS : SnN σ (1 + 1 + 3 * i) E L B) (hi : i < 4) (hf1 : 1 ≤ f) (hfL : f ≤ L) (hB : B + 20000 ≤ 1000000000) :
    x_X5_goBack σ 0 (nI i) (nI f) = 0 ∧ f_X5_goBack σ 0 (nI i) (nI f) = s_X5_goBack σ 0 (nI i) (nI f) (1 + 1 + 3 * i) 2 ∧ GN (B + 16000) (s_X5_goBack σ 0 (nI i) (nI f)) ∧ SnN (s_X5_goBack σ 0 (nI i) (nI f)) (1 + 1 + 3 * i) (fun a => E (a + f)) (L - f) (B + 16000) ∧ s_X5_goBack σ 0 (nI i) (nI f) (1 + 1 + 3 * i) 2 = σ (1 + 1 + 3 * i) 2 - PS E f ∧ s_X5_goBack σ 0 (nI i) (nI f) (1 + 1 + 3 * i) 10 = σ (1 + 1 + 3 * i) 10 + PA E f ∧ s_X5_goBack σ 0 (nI i) (nI f) (1 + 1 + 3 * i) 8 = σ (1 + 1 + 3 * i) 8 ∧ (s_X5_goBack σ 0 (nI i) (nI f) (1 + 1 + 3 * i) 1, s_X5_goBack σ 0 (nI i) (nI f) (1 + 1 + 3 * i) 2, s_X5_goBack σ 0 (nI i) (nI f) (1 + 1 + 3 * i) 4) = bk3 f E (σ (1 + 1 + 3 * i) 1, σ (1 + 1 + 3 * i) 2, σ (1 + 1 + 3 * i) 4) := by
  obtain ⟨n0, n1⟩ := num_ok (σ := σ) hi
  have hS0 := hS
  obtain ⟨-, -, -, hA, O, hL⟩ := hS
  have l1 := hL.1
  have l3 := hL.2.2.1
  have e1 : Ln σ ((1 + 1 + 3 * i) + 1) = L := by unfold Ln; rw [l3]; exact nI_clamp (by omega)
  have d1 : ¬ nI f < 1 := by
    rw [show (1 : Int32) = nI 1 from rfl, nI_ltI (by omega) (by omega)]
    omega
  have d2 : nI f ≤ 16 := by
    rw [show (16 : Int32) = nI 16 from rfl, nI_leI (by omega) (by omega)]
    omega
  have hc : f_X4_canRetrace σ (1 + 1 + 3 * i) (nI f) = 1 := by
    unfold f_X4_canRetrace
    rw [e1, if_pos ((nI_leI (by omega) (by omega)).mpr hfL), show nI L - nI f = nI (L - f) from pk_sub hfL, nI_clamp (by omega)]
    exact can_ok hA hL hB 17 (L - f) 0 0 (by omega) (by omega) ⟨by decide, by show (0 : Int) ≤ _; omega⟩ ⟨by decide, by show (0 : Int) ≤ _; omega⟩
  have hk : s_X3_keep σ 40 1 (1 + 1 + 3 * i) = σ (1 + 1 + 3 * i) := keep_ne (by omega)
  have hS' : SnN (s_X3_keep σ 40 1) (1 + 1 + 3 * i) E L B := hS0.cg hk (keep_ne (by omega)) (keep_ne (by omega)) (Nat.le_refl B)
  have es : s_X5_goBack σ 0 (nI i) (nI f) = gs_X4_retrace (1 + 1 + 3 * i) (nI f) (f + 1) 0 (s_X3_keep σ 40 1) := by
    unfold s_X5_goBack s_X4_retrace
    simp only [if_pos n0, n1, Nat.zero_add, if_neg d1, if_pos d2, hc]
    rw [if_neg (by decide), nI_clamp (by omega)]
  have hBf : B + 1000 * f ≤ B + 16000 := Nat.add_le_add_left (Nat.mul_le_mul_left 1000 (Nat.le_trans hfL l1)) B
  obtain ⟨c1, c2, c3, c4, c5, c6⟩ := sn_retr (k := (1 + 1 + 3 * i)) (f := f) (by omega) f (f + 1) 0 _ E L B (by omega) (by omega) hfL hS' (Nat.le_trans hBf (by omega))
  rw [hk] at c2 c3 c4 c5
  rw [es]
  have c1' := c1.cg (B' := B + 16000) rfl rfl rfl hBf
  refine ⟨?_, ?_, h.keep.one hi (fun q q0 q1 q2 q3 => c6 q q1 q2) c1' (LGA_gretrace (kd_sn hi) _ _ _ h.keep.2.2.2) (by omega), c1', c2, c3, c4, c5⟩
  · unfold x_X5_goBack
    simp only [if_pos n0, n1, if_neg d1, if_pos d2, hc]
    rw [if_neg (by decide)]
  · rw [← es]
    unfold f_X5_goBack s_X5_goBack
    simp only [if_pos n0, n1, Nat.zero_add, if_neg d1, if_pos d2, hc]
    rw [if_neg (by decide), if_neg (by decide)]
end
section
/-! crawl, meetMark, setRule, setCounts -/
theorem st_ngh {a v : Int32} (ha : St a) (hv : v = 1 ∨ v = -1) : St (f_X4_ring ((f_X4_ring a + v) &&& 3)) ∧ ¬ a ^^^ f_X4_ring ((f_X4_ring a + v) &&& 3) = 3 ∧ ¬ a ^^^ f_X4_ring ((f_X4_ring a + v) &&& 3) = 0 := by
  rcases ha with rfl | rfl | rfl | rfl <;> rcases hv with rfl | rfl <;> (unfold St; decide)
theorem nI_suc {x v : Int32} {m : Nat} : x + v + nI m * v = x + nI (m + 1) * v := by
  rw [← nI_1]
  grind
theorem nI_suc1 {x : Int32} {m : Nat} : x + 1 + nI m = x + nI (m + 1) := by
  rw [← nI_1]
  grind
theorem sn_crawl {k b : Nat} {v : Int32} (hv : v = 1 ∨ v = -1) : ∀ (m n i : Nat) (σ : Sg) (E : Nat → Nat → Int32) (L B : Nat), m + i = b → b + 1 ≤ i + n → SnN σ k E L B → B + 1000 * m ≤ 1000000000 → kd k = 4 → LGA σ →
    (∃ (E' : Nat → Nat → Int32) (L' : Nat), SnN (gs_X5_crawl k v b n i σ) k E' L' (B + 1000 * m)) ∧ gf_X5_crawl k v b n i σ = gs_X5_crawl k v b n i σ k 2 ∧ gs_X5_crawl k v b n i σ k 2 = σ k 2 + nI m * v ∧ gs_X5_crawl k v b n i σ k 8 = σ k 8 ∧ gs_X5_crawl k v b n i σ k 10 = σ k 10 + nI m ∧ LGA (gs_X5_crawl k v b n i σ) ∧ ∀ q, q ≠ k → q ≠ k + 1 → q ≠ k + 2 → gs_X5_crawl k v b n i σ q = σ q := by
  intro m
  induction m with
  | zero =>
    intro n i σ E L B h1 h2 hS hB hk hG
    obtain ⟨n, rfl⟩ : ∃ a, n = a + 1 := ⟨n - 1, by omega⟩
    rw [gs_X5_crawl, gf_X5_crawl, if_pos (by omega), if_pos (by omega)]
    refine ⟨⟨E, L, hS⟩, rfl, ?_, rfl, ?_, hG, fun _ _ _ _ => rfl⟩
    · show σ k 2 = σ k 2 + 0 * v; grind
    · show σ k 10 = σ k 10 + 0; grind
  | succ m ih =>
    intro n i σ E L B h1 h2 hS hB hk hG
    have hB1 : B + 1000 ≤ 1000000000 := Nat.le_trans (Nat.add_le_add_left (Nat.le_mul_of_pos_right 1000 (Nat.succ_pos m)) B) hB
    have hB3 : B + 1000 * (m + 1) = B + 1000 + 1000 * m := by rw [Nat.add_assoc, Nat.mul_add, Nat.mul_one, Nat.add_comm 1000]
    rw [hB3] at hB ⊢
    obtain ⟨n, rfl⟩ : ∃ a, n = a + 1 := ⟨n - 1, by omega⟩
    obtain ⟨t1, t2, t3⟩ := st_ngh hS.1 hv
    have hv2 : -2 ≤ v.toInt ∧ v.toInt ≤ 2 := by rcases hv with rfl | rfl <;> decide
    have hab : ab v = 1 := by rcases hv with rfl | rfl <;> decide
    obtain ⟨f1, f2, f3⟩ := sn_feel (y := f_X4_neighbour σ k v) (v := v) (w := 1) hS t1 ⟨fun q => absurd q t3, hv2⟩ (by decide) hB1
    have e1 : gs_X5_crawl k v b (n + 1) i σ = gs_X5_crawl k v b n (i + 1) (s_X4_sense σ k (f_X4_neighbour σ k v) v 1) := by rw [gs_X5_crawl, if_neg (by omega)]
    have e2 : gf_X5_crawl k v b (n + 1) i σ = gf_X5_crawl k v b n (i + 1) (s_X4_sense σ k (f_X4_neighbour σ k v) v 1) := by rw [gf_X5_crawl, if_neg (by omega)]
    obtain ⟨c1, c2, c3, c4, c5, c6, c7⟩ := ih n (i + 1) _ _ _ _ (by omega) (by omega) f1 hB hk (LGA_sense hG hk)
    rw [e1, e2]
    have w8 : s_X4_sense σ k (f_X4_neighbour σ k v) v 1 k 8 = σ k 8 := by
      rw [f2]
      show (if σ k 1 ^^^ f_X4_neighbour σ k v = 3 then _ else _) = _
      exact if_neg t2
    have w2 : s_X4_sense σ k (f_X4_neighbour σ k v) v 1 k 2 = σ k 2 + v := by rw [f2]; rfl
    have w10 : s_X4_sense σ k (f_X4_neighbour σ k v) v 1 k 10 = σ k 10 + 1 := by rw [f2, ← hab]; rfl
    refine ⟨c1, c2, ?_, ?_, ?_, c6, fun q q1 q2 q3 => (c7 q q1 q2 q3).trans (f3 q q1 q2 q3)⟩
    · rw [c3, w2, nI_suc]
    · rw [c4, w8]
    · rw [c5, w10, nI_suc1]
theorem crawl_ok {σ : Sg} {B i : Nat} {y : Int32} (h : GN B σ) (hi : i < 4) (hy : -100 ≤ y.toInt ∧ y.toInt ≤ 100) (hB : B + 200000 ≤ 1000000000) :
    x_X5_crawl σ 0 (nI i) y = 0 ∧ f_X5_crawl σ 0 (nI i) y = s_X5_crawl σ 0 (nI i) y (1 + 1 + 3 * i) 2 ∧ GN (B + 100000) (s_X5_crawl σ 0 (nI i) y) ∧ s_X5_crawl σ 0 (nI i) y (1 + 1 + 3 * i) 2 = σ (1 + 1 + 3 * i) 2 + y ∧ s_X5_crawl σ 0 (nI i) y (1 + 1 + 3 * i) 8 = σ (1 + 1 + 3 * i) 8 ∧ s_X5_crawl σ 0 (nI i) y (1 + 1 + 3 * i) 10 = σ (1 + 1 + 3 * i) 10 + ab y := by
  obtain ⟨n0, n1⟩ := num_ok (σ := σ) hi
  obtain ⟨E, L, hS⟩ := h.1 i hi
  have d1 : ¬ y < -100 := by rw [Int32.lt_iff_toInt_lt, show (-100 : Int32).toInt = -100 from rfl]; omega
  have d2 : y ≤ 100 := by rw [Int32.le_iff_toInt_le, show (100 : Int32).toInt = 100 from rfl]; omega
  obtain ⟨z1, z2⟩ := sz100 d1 d2
  have hz := nI_int (a := (ab y).toNatClampNeg) (by omega)
  have hr := dem_room (room_ok hS.2.2.2.1 (x := nI (ab y).toNatClampNeg) (y := nI (ab y).toNatClampNeg) ⟨by omega, by omega⟩ ⟨by omega, by omega⟩ (by omega))
  have hk : s_X3_keep σ 40 1 (1 + 1 + 3 * i) = σ (1 + 1 + 3 * i) := keep_ne (by omega)
  have hS' : SnN (s_X3_keep σ 40 1) (1 + 1 + 3 * i) E L B := hS.cg hk (keep_ne (by omega)) (keep_ne (by omega)) (Nat.le_refl B)
  have hBf : B + 1000 * (ab y).toNatClampNeg ≤ B + 100000 := Nat.add_le_add_left (Nat.mul_le_mul_left 1000 z2) B
  obtain ⟨⟨E', L', c1⟩, c2, c3, c4, c5, c6, c7⟩ := sn_crawl (k := (1 + 1 + 3 * i)) (b := (ab y).toNatClampNeg) (wayOf_v y) (ab y).toNatClampNeg 101 0 _ E L B rfl (by omega) hS' (Nat.le_trans hBf (by omega)) (kd_sn hi) h.keep.2.2.2
  rw [hk] at c3 c4 c5
  have es : s_X5_crawl σ 0 (nI i) y = gs_X5_crawl (1 + 1 + 3 * i) (wayOf y) (ab y).toNatClampNeg 101 0 (s_X3_keep σ 40 1) := by
    unfold s_X5_crawl wayOf
    simp only [if_pos n0, n1, Nat.zero_add, if_neg d1, if_pos d2]
    rw [if_pos hr]
    split <;> rfl
  have ef : f_X5_crawl σ 0 (nI i) y = gf_X5_crawl (1 + 1 + 3 * i) (wayOf y) (ab y).toNatClampNeg 101 0 (s_X3_keep σ 40 1) := by
    unfold f_X5_crawl wayOf
    simp only [if_pos n0, n1, Nat.zero_add, if_neg d1, if_pos d2]
    rw [if_pos hr]
    split <;> rfl
  rw [es, ef]
  refine ⟨?_, c2, h.keep.one hi (fun q q0 q1 q2 q3 => c7 q q1 q2 q3) (c1.cg rfl rfl rfl hBf) c6 (by omega), ?_, c4, ?_⟩
  · unfold x_X5_crawl
    simp only [if_pos n0, n1, if_neg d1, if_pos d2]
    rw [if_pos hr]
    split <;> rfl
  · rw [c3]
    congr 1
    rw [← z1]
    unfold wayOf ab
    split
    · exact Int32.mul_one _
    · rw [Int32.zero_sub]
      grind
  · rw [c5, ← z1]
/-- a mark -/
def mkS (σ : Sg) (k : Nat) (f : Int32) : Sg := up (up (up σ k 2 (σ k 2 - f)) k 7 ((up σ k 2 (σ k 2 - f)) k 7 + f)) k 9 ((up (up σ k 2 (σ k 2 - f)) k 7 ((up σ k 2 (σ k 2 - f)) k 7 + f)) k 9 + ab f)
theorem mk_k {σ : Sg} {k a : Nat} {f : Int32} : mkS σ k f k a = if a = 2 then σ k 2 - f else if a = 7 then σ k 7 + f else if a = 9 then σ k 9 + ab f else σ k a := by
  unfold mkS
  simp only [up_k]
  by_cases h2 : a = 2
  · subst h2; simp
  · by_cases h7 : a = 7
    · subst h7; simp
    · by_cases h9 : a = 9
      · subst h9; simp
      · simp [h2, h7, h9]
theorem mk_ne {σ : Sg} {k q : Nat} {f : Int32} (h : q ≠ k) : mkS σ k f q = σ q := by
  unfold mkS
  rw [up_ne h, up_ne h, up_ne h]
theorem sn_mark {σ : Sg} {k L B : Nat} {E : Nat → Nat → Int32} {f : Int32} (h : SnN σ k E L B) (hf : -400 ≤ f.toInt ∧ f.toInt ≤ 400) (hB : B + 1000 ≤ 1000000000) : SnN (mkS σ k f) k E L (B + 1000) := by
  obtain ⟨s1, s2, s3, s4, O, hL⟩ := h
  have e1 : mkS σ k f k 1 = σ k 1 := by rw [mk_k]; rfl
  have e2 : mkS σ k f k 2 = σ k 2 - f := by rw [mk_k]; rfl
  have e9 : mkS σ k f k 9 = σ k 9 + ab f := by rw [mk_k]; rfl
  have e10 : mkS σ k f k 10 = σ k 10 := by rw [mk_k]; rfl
  have e11 : mkS σ k f k 11 = σ k 11 := by rw [mk_k]; rfl
  refine ⟨by rw [e1]; exact s1, ?_, ?_, ?_, O, ?_⟩
  · rw [mk_k]; exact s2
  · rw [e2, ← s3, mk_k, mk_k, mk_k, mk_k]
    show σ k 4 + σ k 5 + σ k 6 - (σ k 7 + f) = _
    grind
  · obtain ⟨h1, h2, h3, h4, h5⟩ := s4
    obtain ⟨a1, a2⟩ := ab_int (v := f) (M := 400) ⟨by omega, by omega⟩ (by omega)
    have ha : 0 ≤ (ab f).toInt ∧ (ab f).toInt ≤ 400 ∧ -(ab f).toInt ≤ f.toInt ∧ f.toInt ≤ (ab f).toInt := by
      rcases Int.lt_or_le f.toInt 0 with q | q
      · have := a2 q; omega
      · have := a1 q; omega
    have g2 : (mkS σ k f k 2).toInt = (σ k 2).toInt - f.toInt := by rw [e2, Int32.toInt_sub]; exact bm (by omega) (by omega)
    have g9 : (mkS σ k f k 9).toInt = (σ k 9).toInt + (ab f).toInt := by rw [e9, Int32.toInt_add]; exact bm (by omega) (by omega)
    unfold AC
    rw [e10, e11, g2, g9]
    omega
  · rw [e1]
    exact hL.cg (mk_ne (by omega)) (mk_ne (by omega))
theorem place_int {σ : Sg} {k : Nat} {c : Int32} (hc : CT c) : (f_X4_placeIn σ k c).toInt = (σ k 2).toInt % c.toInt ∧ (f_X4_turnsOver σ k c).toInt = (σ k 2).toInt / c.toInt := by
  have h := hc.int
  obtain ⟨f1, f2⟩ := fl_int (x := σ k 2) (y := c) (by omega) (by omega)
  unfold f_X4_placeIn f_X4_turnsOver
  rw [if_pos (i1_le.mpr (by omega)), if_pos (i1_le.mpr (by omega))]
  exact ⟨f2, f1⟩
theorem two_lt {c p : Int32} (hc : 4 ≤ c.toInt ∧ c.toInt ≤ 400) (hp : 0 ≤ p.toInt ∧ p.toInt < c.toInt) : c < 2 * p ↔ c.toInt < 2 * p.toInt := by
  rw [Int32.lt_iff_toInt_lt, Int32.toInt_mul, show (2 : Int32).toInt = 2 from rfl, bm (by omega) (by omega)]
theorem mark_int {σ : Sg} {k : Nat} {c : Int32} (hc : CT c) : (-400 ≤ (f_X4_passMark σ k c).toInt ∧ (f_X4_passMark σ k c).toInt ≤ 400) ∧ ((f_X4_passMark σ k c).toInt = (σ k 2).toInt % c.toInt ∨ (f_X4_passMark σ k c).toInt = (σ k 2).toInt % c.toInt - c.toInt) ∧ ((σ k 2).toInt % c.toInt = 0 → f_X4_passMark σ k c = 0) := by
  have h := hc.int
  have hp := (place_int (σ := σ) (k := k) hc).1
  have h0 := Int.emod_nonneg (σ k 2).toInt (show c.toInt ≠ 0 by omega)
  have h1 := Int.emod_lt_of_pos (σ k 2).toInt (show 0 < c.toInt by omega)
  have ht := two_lt (c := c) (p := f_X4_placeIn σ k c) h ⟨by omega, by omega⟩
  unfold f_X4_passMark
  by_cases g : c < 2 * f_X4_placeIn σ k c
  · have g' := ht.mp g
    rw [if_pos g, Int32.toInt_sub, bm (by omega) (by omega), hp]
    exact ⟨⟨by omega, by omega⟩, Or.inr rfl, fun q => absurd q (by omega)⟩
  · rw [if_neg g, hp]
    refine ⟨⟨by omega, by omega⟩, Or.inl rfl, fun q => ?_⟩
    apply Int32.toInt_inj.mp
    rw [hp, q]
    rfl
theorem mark_ok {σ : Sg} {B i : Nat} (h : GN B σ) (hi : i < 4) (hB : B + 20000 ≤ 1000000000) :
    x_X5_meetMark σ 0 (nI i) = 0 ∧ f_X5_meetMark σ 0 (nI i) = f_X4_passMark σ (1 + 1 + 3 * i) (σ 1 5) ∧ GN (B + 1000) (s_X5_meetMark σ 0 (nI i)) ∧ s_X5_meetMark σ 0 (nI i) (1 + 1 + 3 * i) 9 = σ (1 + 1 + 3 * i) 9 + ab (f_X4_passMark σ (1 + 1 + 3 * i) (σ 1 5)) ∧ s_X5_meetMark σ 0 (nI i) (1 + 1 + 3 * i) 2 = σ (1 + 1 + 3 * i) 2 - f_X4_passMark σ (1 + 1 + 3 * i) (σ 1 5) ∧ (s_X5_meetMark σ 0 (nI i) (1 + 1 + 3 * i) 2).toInt % (σ 1 5).toInt = 0 ∧ s_X5_meetMark σ 0 (nI i) 1 = σ 1 := by
  obtain ⟨n0, n1⟩ := num_ok (σ := σ) hi
  obtain ⟨E, L, hS⟩ := h.1 i hi
  have hc := h.2.2.1
  have hci := hc.int
  have hk : s_X3_keep σ 40 1 (1 + 1 + 3 * i) = σ (1 + 1 + 3 * i) := keep_ne (by omega)
  have hk1 : s_X3_keep σ 40 1 1 = σ 1 := keep_ne (by omega)
  have hS' : SnN (s_X3_keep σ 40 1) (1 + 1 + 3 * i) E L B := hS.cg hk (keep_ne (by omega)) (keep_ne (by omega)) (Nat.le_refl B)
  have ep : f_X4_passMark (s_X3_keep σ 40 1) (1 + 1 + 3 * i) (σ 1 5) = f_X4_passMark σ (1 + 1 + 3 * i) (σ 1 5) := by
    unfold f_X4_passMark f_X4_placeIn
    rw [hk]
  obtain ⟨m1, m2, -⟩ := mark_int (σ := σ) (k := (1 + 1 + 3 * i)) hc
  have es : s_X5_meetMark σ 0 (nI i) = mkS (s_X3_keep σ 40 1) (1 + 1 + 3 * i) (f_X4_passMark σ (1 + 1 + 3 * i) (σ 1 5)) := by
    unfold s_X5_meetMark
    simp only [if_pos n0, n1, Nat.zero_add]
    rw [hk1, ← ep]
    unfold s_X4_passMark f_X4_passMark mkS
    split <;> rfl
  have hn := sn_mark hS' m1 (by omega)
  have w2 : s_X5_meetMark σ 0 (nI i) (1 + 1 + 3 * i) 2 = σ (1 + 1 + 3 * i) 2 - f_X4_passMark σ (1 + 1 + 3 * i) (σ 1 5) := by
    rw [es, mk_k, hk]
    rfl
  refine ⟨?_, ?_, ?_, ?_, w2, ?_, ?_⟩
  · unfold x_X5_meetMark
    rw [if_pos n0]
  · unfold f_X5_meetMark
    simp only [if_pos n0, n1, Nat.zero_add]
    rw [hk1, ep]
  · rw [es]
    exact h.keep.one hi (fun q q0 q1 q2 q3 => mk_ne q1) hn (h.keep.2.2.2.fr (P := fun q => q = (1 + 1 + 3 * i)) (fun q hq => mk_ne hq) (fun q hq e => by have := kd_sn hi; rw [e] at hq; omega)) (by omega)
  · rw [es, mk_k, hk]
    rfl
  · obtain ⟨-, -, -, h4, h5⟩ := hS.2.2.2.1
    obtain ⟨a1, a2, a3, -, -⟩ := hS.2.2.2.1
    rw [w2, Int32.toInt_sub, bm (by omega) (by omega)]
    have e := Int.emod_add_mul_ediv (σ (1 + 1 + 3 * i) 2).toInt (σ 1 5).toInt
    rcases m2 with q | q
    · rw [q, show (σ (1 + 1 + 3 * i) 2).toInt - (σ (1 + 1 + 3 * i) 2).toInt % (σ 1 5).toInt = (σ 1 5).toInt * ((σ (1 + 1 + 3 * i) 2).toInt / (σ 1 5).toInt) by omega]
      exact Int.mul_emod_right _ _
    · rw [q, show (σ (1 + 1 + 3 * i) 2).toInt - ((σ (1 + 1 + 3 * i) 2).toInt % (σ 1 5).toInt - (σ 1 5).toInt) = (σ 1 5).toInt * ((σ (1 + 1 + 3 * i) 2).toInt / (σ 1 5).toInt + 1) by rw [Int.mul_add, Int.mul_one]; omega]
      exact Int.mul_emod_right _ _
  · rw [es, mk_ne (by omega), hk1]
theorem GN.up1 {B a : Nat} {v : Int32} {σ : Sg} (h : GN B σ) (hr : a = 4 → Ru v) (hc : a = 5 → CT v) (ha : a = 4 ∨ a = 5) : GN B (up σ 1 a v) := by
  obtain ⟨h1, h2, h3, h4⟩ := h
  refine ⟨fun j hj => ?_, ?_, ?_, LGA_up h4 (by omega)⟩
  · obtain ⟨E, L, q⟩ := h1 j hj
    exact ⟨E, L, q.cg (up_ne (by omega)) (up_ne (by omega)) (up_ne (by omega)) (Nat.le_refl B)⟩
  · rw [up_k]
    split
    · exact hr (by omega)
    · exact h2
  · rw [up_k]
    split
    · exact hc (by omega)
    · exact h3
theorem rule_ok {σ : Sg} {B : Nat} {x : Int32} (h : GN B σ) (hx : Ru x) : x_X5_setRule σ 0 x = 0 ∧ f_X5_setRule σ 0 x = σ 1 4 ∧ GN B (s_X5_setRule σ 0 x) ∧ s_X5_setRule σ 0 x 1 4 = x := by
  have hk1 : s_X3_keep σ 40 1 1 = σ 1 := keep_ne (by omega)
  have es : s_X5_setRule σ 0 x = up (s_X3_keep σ 40 1) 1 4 x := by
    unfold s_X5_setRule
    rcases hx with rfl | rfl
    · rw [if_pos rfl]
    · rw [if_neg (by decide), if_pos rfl]
  refine ⟨?_, ?_, ?_, ?_⟩
  · unfold x_X5_setRule
    rcases hx with rfl | rfl <;> rfl
  · unfold f_X5_setRule
    rw [← hk1]
    rcases hx with rfl | rfl
    · rw [if_pos rfl]
    · rw [if_neg (by decide), if_pos rfl]
  · rw [es]
    exact h.keep.up1 (fun _ => hx) (fun q => absurd q (by decide)) (Or.inl rfl)
  · rw [es, up_eq]
theorem cts_ok {σ : Sg} {B n : Nat} (h : GN B σ) (h1 : 1 ≤ n) (h2 : n ≤ 100) : x_X5_setCounts σ 0 (nI (4 * n)) = 0 ∧ f_X5_setCounts σ 0 (nI (4 * n)) = σ 1 5 ∧ GN B (s_X5_setCounts σ 0 (nI (4 * n))) ∧ s_X5_setCounts σ 0 (nI (4 * n)) 1 5 = nI (4 * n) := by
  have hk1 : s_X3_keep σ 40 1 1 = σ 1 := keep_ne (by omega)
  have hi := nI_int (a := 4 * n) (by omega)
  have d1 : ¬ nI (4 * n) < 4 := by rw [Int32.lt_iff_toInt_lt, hi, show (4 : Int32).toInt = 4 from rfl]; omega
  have d2 : ¬ 400 < nI (4 * n) := by rw [Int32.lt_iff_toInt_lt, hi, show (400 : Int32).toInt = 400 from rfl]; omega
  have d3 : nI (4 * n) - nI (4 * n) / 4 * 4 = 0 := by
    apply Int32.toInt_inj.mp
    rw [(rem_int (x := nI (4 * n)) (y := 4) (by decide)).2.2, hi, show (4 : Int32).toInt = 4 from rfl, show (0 : Int32).toInt = 0 from rfl, show ((4 * n : Nat) : Int) = 4 * (n : Int) by omega]
    exact Int.mul_tmod_right _ _
  have es : s_X5_setCounts σ 0 (nI (4 * n)) = up (s_X3_keep σ 40 1) 1 5 (nI (4 * n)) := by
    unfold s_X5_setCounts
    rw [if_neg d1, if_neg d2, if_pos d3]
  refine ⟨?_, ?_, ?_, ?_⟩
  · unfold x_X5_setCounts
    rw [if_neg d1, if_neg d2, if_pos d3]
  · unfold f_X5_setCounts
    rw [if_neg d1, if_neg d2, if_pos d3]
    rw [hk1]
  · rw [es]
    exact h.keep.up1 (fun q => absurd q (by decide)) (fun _ => ⟨n, h1, h2, rfl⟩) (Or.inr rfl)
  · rw [es, up_eq]
end
section
/-! what is read -/
theorem rx_stateOf {σ : Sg} {i : Nat} (hi : i < 4) : x_X5_stateOf σ 0 (nI i) = 0 := by
  unfold x_X5_stateOf
  rw [if_pos (num_ok hi).1]
theorem rd_stateOf {σ : Sg} {i : Nat} (hi : i < 4) : f_X5_stateOf σ 0 (nI i) = σ (1 + 1 + 3 * i) 1 := by
  unfold f_X5_stateOf
  rw [if_pos (num_ok hi).1, (num_ok hi).2]
theorem rx_positionOf {σ : Sg} {i : Nat} (hi : i < 4) : x_X5_positionOf σ 0 (nI i) = 0 := by
  unfold x_X5_positionOf
  rw [if_pos (num_ok hi).1]
theorem rd_positionOf {σ : Sg} {i : Nat} (hi : i < 4) : f_X5_positionOf σ 0 (nI i) = σ (1 + 1 + 3 * i) 2 := by
  unfold f_X5_positionOf
  rw [if_pos (num_ok hi).1, (num_ok hi).2]
theorem rx_directionOf {σ : Sg} {i : Nat} (hi : i < 4) : x_X5_directionOf σ 0 (nI i) = 0 := by
  unfold x_X5_directionOf
  rw [if_pos (num_ok hi).1]
theorem rd_directionOf {σ : Sg} {i : Nat} (hi : i < 4) : f_X5_directionOf σ 0 (nI i) = σ (1 + 1 + 3 * i) 3 := by
  unfold f_X5_directionOf
  rw [if_pos (num_ok hi).1, (num_ok hi).2]
theorem rx_countOfA {σ : Sg} {i : Nat} (hi : i < 4) : x_X5_countOfA σ 0 (nI i) = 0 := by
  unfold x_X5_countOfA
  rw [if_pos (num_ok hi).1]
theorem rd_countOfA {σ : Sg} {i : Nat} (hi : i < 4) : f_X5_countOfA σ 0 (nI i) = σ (1 + 1 + 3 * i) 4 := by
  unfold f_X5_countOfA
  rw [if_pos (num_ok hi).1, (num_ok hi).2]
theorem rx_errorsOf {σ : Sg} {i : Nat} (hi : i < 4) : x_X5_errorsOf σ 0 (nI i) = 0 := by
  unfold x_X5_errorsOf
  rw [if_pos (num_ok hi).1]
theorem rd_errorsOf {σ : Sg} {i : Nat} (hi : i < 4) : f_X5_errorsOf σ 0 (nI i) = σ (1 + 1 + 3 * i) 8 := by
  unfold f_X5_errorsOf
  rw [if_pos (num_ok hi).1, (num_ok hi).2]
theorem rx_slipsOf {σ : Sg} {i : Nat} (hi : i < 4) : x_X5_slipsOf σ 0 (nI i) = 0 := by
  unfold x_X5_slipsOf
  rw [if_pos (num_ok hi).1]
theorem rd_slipsOf {σ : Sg} {i : Nat} (hi : i < 4) : f_X5_slipsOf σ 0 (nI i) = σ (1 + 1 + 3 * i) 9 := by
  unfold f_X5_slipsOf
  rw [if_pos (num_ok hi).1, (num_ok hi).2]
theorem rx_distanceOf {σ : Sg} {i : Nat} (hi : i < 4) : x_X5_distanceOf σ 0 (nI i) = 0 := by
  unfold x_X5_distanceOf
  rw [if_pos (num_ok hi).1]
theorem rd_distanceOf {σ : Sg} {i : Nat} (hi : i < 4) : f_X5_distanceOf σ 0 (nI i) = σ (1 + 1 + 3 * i) 10 := by
  unfold f_X5_distanceOf
  rw [if_pos (num_ok hi).1, (num_ok hi).2]
theorem rx_ticksOf {σ : Sg} {i : Nat} (hi : i < 4) : x_X5_ticksOf σ 0 (nI i) = 0 := by
  unfold x_X5_ticksOf
  rw [if_pos (num_ok hi).1]
theorem rd_ticksOf {σ : Sg} {i : Nat} (hi : i < 4) : f_X5_ticksOf σ 0 (nI i) = σ (1 + 1 + 3 * i) 11 := by
  unfold f_X5_ticksOf
  rw [if_pos (num_ok hi).1, (num_ok hi).2]
theorem rx_positionByTracks {σ : Sg} {i : Nat} (hi : i < 4) : x_X5_positionByTracks σ 0 (nI i) = 0 := by
  unfold x_X5_positionByTracks
  rw [if_pos (num_ok hi).1]
theorem rd_positionByTracks {σ : Sg} {i : Nat} (hi : i < 4) : f_X5_positionByTracks σ 0 (nI i) = σ (1 + 1 + 3 * i) 4 + σ (1 + 1 + 3 * i) 5 + σ (1 + 1 + 3 * i) 6 - σ (1 + 1 + 3 * i) 7 := by
  unfold f_X5_positionByTracks
  rw [if_pos (num_ok hi).1, (num_ok hi).2]
theorem rx_logLength {σ : Sg} {i : Nat} (hi : i < 4) : x_X5_logLength σ 0 (nI i) = 0 := by
  unfold x_X5_logLength
  rw [if_pos (num_ok hi).1]
theorem rd_logLength {σ : Sg} {i : Nat} (hi : i < 4) : f_X5_logLength σ 0 (nI i) = σ ((1 + 1 + 3 * i) + 1) 2 := by
  unfold f_X5_logLength
  rw [if_pos (num_ok hi).1, (num_ok hi).2]
theorem rx_turnsOf {σ : Sg} {i : Nat} (hi : i < 4) : x_X5_turnsOf σ 0 (nI i) = 0 := by
  unfold x_X5_turnsOf
  rw [if_pos (num_ok hi).1]
theorem rd_turnsOf {σ : Sg} {i : Nat} (hi : i < 4) : f_X5_turnsOf σ 0 (nI i) = f_X4_turnsOver σ (1 + 1 + 3 * i) (σ 1 5) := by
  unfold f_X5_turnsOf
  rw [if_pos (num_ok hi).1, (num_ok hi).2]
theorem rx_placeOf {σ : Sg} {i : Nat} (hi : i < 4) : x_X5_placeOf σ 0 (nI i) = 0 := by
  unfold x_X5_placeOf
  rw [if_pos (num_ok hi).1]
theorem rd_placeOf {σ : Sg} {i : Nat} (hi : i < 4) : f_X5_placeOf σ 0 (nI i) = f_X4_placeIn σ (1 + 1 + 3 * i) (σ 1 5) := by
  unfold f_X5_placeOf
  rw [if_pos (num_ok hi).1, (num_ok hi).2]
theorem rx_speedOf {σ : Sg} {i : Nat} (hi : i < 4) : x_X5_speedOf σ 0 (nI i) = 0 := by
  unfold x_X5_speedOf
  rw [if_pos (num_ok hi).1]
theorem rd_speedOf {σ : Sg} {i : Nat} (hi : i < 4) : f_X5_speedOf σ 0 (nI i) = f_X1_speed σ ((1 + 1 + 3 * i) + 1) := by
  unfold f_X5_speedOf
  rw [if_pos (num_ok hi).1, (num_ok hi).2]
theorem rx_stepTo {σ : Sg} {i : Nat} {y : Int32} (hi : i < 4) (hy : St y) : x_X5_stepTo σ 0 (nI i) y = 0 := by
  unfold x_X5_stepTo
  rw [if_pos (num_ok hi).1, if_pos (st_dem hy)]
theorem rd_stepTo {σ : Sg} {i : Nat} {y : Int32} (hi : i < 4) (hy : St y) : f_X5_stepTo σ 0 (nI i) y = f_X4_stepUnder σ (1 + 1 + 3 * i) (σ 1 4) y := by
  unfold f_X5_stepTo
  rw [if_pos (num_ok hi).1, if_pos (st_dem hy), (num_ok hi).2]
theorem lg_lt {L a : Nat} {x : Int32} (hL : L ≤ 16) (hx : x = nI L) (ha : a < L) : ¬ nI a < 0 ∧ nI a < x := by
  constructor
  · rw [show (0 : Int32) = nI 0 from rfl, nI_ltI (by omega) (by omega)]
    omega
  · rw [hx, nI_ltI (by omega) (by omega)]
    exact ha
theorem rx_loggedStep {σ : Sg} {i L a : Nat} (hi : i < 4) (hL : L ≤ 16) (hl : σ ((1 + 1 + 3 * i) + 1) 2 = nI L) (ha : a < L) : x_X5_loggedStep σ 0 (nI i) (nI a) = 0 := by
  obtain ⟨d1, d2⟩ := lg_lt hL hl ha
  unfold x_X5_loggedStep
  rw [if_pos (num_ok hi).1, if_neg d1, (num_ok hi).2, if_pos d2]
theorem rd_loggedStep {σ : Sg} {i L B a : Nat} {E : Nat → Nat → Int32} (hi : i < 4) (hS : SnN σ (1 + 1 + 3 * i) E L B) (ha : a < L) : f_X5_loggedStep σ 0 (nI i) (nI a) = E (L - 1 - a) 0 := by
  obtain ⟨-, -, -, -, O, l1, l2, l3, l4, l6, -⟩ := hS
  obtain ⟨d1, d2⟩ := lg_lt l1 l3 ha
  unfold f_X5_loggedStep
  rw [if_pos (num_ok hi).1, if_neg d1, (num_ok hi).2, if_pos d2, step_nI l4 (by omega)]
  have := l6 (L - 1 - a) (by omega) 0 (by omega)
  rw [show L - 1 - (L - 1 - a) = a by omega] at this
  exact this
theorem rd_counts {σ : Sg} : f_X5_counts σ 0 = σ 1 5 := rfl
theorem rd_rule {σ : Sg} : f_X5_rule σ 0 = σ 1 4 := rfl
/-- the first of those that are farthest -/
theorem glead {σ : Sg} : ∀ (n x i : Nat), x < i → i ≤ 4 → 5 ≤ i + n → (∀ j, j < i → σ (1 + 1 + 3 * j) 2 ≤ σ (1 + 1 + 3 * x) 2) → (∀ j, j < x → σ (1 + 1 + 3 * j) 2 < σ (1 + 1 + 3 * x) 2) → ∃ b, b < 4 ∧ gf_X5_leader σ 0 n (nI x) i = nI b ∧ (∀ j, j < 4 → σ (1 + 1 + 3 * j) 2 ≤ σ (1 + 1 + 3 * b) 2) ∧ (∀ j, j < b → σ (1 + 1 + 3 * j) 2 < σ (1 + 1 + 3 * b) 2) := by
  intro n
  induction n with
  | zero => intro x i _ h1 h2; exact absurd h2 (by omega)
  | succ n ih =>
    intro x i h0 h1 h2 h3 h4
    rw [gf_X5_leader]
    by_cases c : 4 ≤ i
    · rw [if_pos c]
      exact ⟨x, by omega, rfl, fun j hj => h3 j (by omega), h4⟩
    · rw [if_neg c, snail_nI (g := 0 + 1) (j := i) (by omega), snail_nI (g := 0 + 1) (j := x) (by omega)]
      by_cases c2 : σ (0 + 1 + 1 + 3 * i) 2 ≤ σ (0 + 1 + 1 + 3 * x) 2
      · rw [if_pos c2]
        refine ih x (i + 1) (by omega) (by omega) (by omega) (fun j hj => ?_) h4
        by_cases e : j = i
        · rw [e]; exact c2
        · exact h3 j (by omega)
      · rw [if_neg c2]
        have c3 : σ (1 + 1 + 3 * x) 2 < σ (1 + 1 + 3 * i) 2 := Int32.not_le.mp c2
        refine ih i (i + 1) (by omega) (by omega) (by omega) (fun j hj => ?_) (fun j hj => ?_)
        · by_cases e : j = i
          · rw [e]; exact Int32.le_refl _
          · exact Int32.le_of_lt (Int32.lt_of_le_of_lt (h3 j (by omega)) c3)
        · exact Int32.lt_of_le_of_lt (h3 j hj) c3
theorem lead_ok (σ : Sg) : ∃ b, b < 4 ∧ f_X5_leader σ 0 = nI b ∧ (∀ j, j < 4 → σ (1 + 1 + 3 * j) 2 ≤ σ (1 + 1 + 3 * b) 2) ∧ (∀ j, j < b → σ (1 + 1 + 3 * j) 2 < σ (1 + 1 + 3 * b) 2) :=
  glead 4 0 1 (by omega) (by omega) (by omega) (fun j hj => by rw [show j = 0 by omega]; exact Int32.le_refl _) (fun j hj => absurd hj (Nat.not_lt_zero j))
/-- how many states are one step on, one step back -/
def cn (σ : Sg) (k : Nat) (r t : Int32) : Nat → Int32
  | 0 => 0
  | j + 1 => cn σ k r t j + (if f_X4_stepUnder σ k r (nI j) = t then 1 else 0)
def stF (s d r y : Int32) : Int32 := if s ^^^ y = 3 then (if r = 1 then 2 * d else 0) else if y = s then 0 else if y = f_X4_ring ((f_X4_ring s + 1) &&& 3) then 1 else -1
theorem cn_ok {σ : Sg} {k : Nat} {r : Int32} (h1 : St (σ k 1)) (h2 : Dr (σ k 3)) (hr : Ru r) : cn σ k r 1 4 = 1 ∧ cn σ k r (-1) 4 = 1 := by
  have e : ∀ y, f_X4_stepUnder σ k r y = stF (σ k 1) (σ k 3) r y := fun _ => rfl
  unfold cn cn cn cn cn
  rw [e, e, e, e]
  generalize σ k 1 = s at h1
  generalize σ k 3 = d at h2
  rcases h1 with rfl | rfl | rfl | rfl <;> rcases h2 with rfl | rfl | rfl <;> rcases hr with rfl | rfl <;> decide
theorem st_j : ∀ j, j < 4 → St (nI j) := by
  intro j hj
  have : j = 0 ∨ j = 1 ∨ j = 2 ∨ j = 3 := by omega
  rcases this with rfl | rfl | rfl | rfl <;> (unfold St; decide)
theorem step_self {σ : Sg} {k : Nat} {r : Int32} : f_X4_stepUnder σ k r (σ k 1) = 0 := by
  unfold f_X4_stepUnder
  rw [if_neg (by rw [Int32.xor_self]; decide), if_pos rfl]
end
section
/-! the speed lies between -2000 and 2000 -/
theorem di_1000 : Jvm.FP.Core.DInt 1000 4652007308841189376 := by
  have h := Jvm.FP.Core.i2d_int 1000
  rw [show Jvm.FP.Core.i2d 1000 = 4652007308841189376 by decide +kernel] at h
  exact h
theorem zv_2000 : Jvm.FP.Core.zval Jvm.FP.Core.b64 (Jvm.FP.Core.val64 4656510908468559872) = 2000 * (Jvm.FP.Core.one64 : Int) ∧ Jvm.FP.Core.zval Jvm.FP.Core.b64 (Jvm.FP.Core.val64 13879882945323335680) = -(2000 * (Jvm.FP.Core.one64 : Int)) ∧ Jvm.FP.Core.val64 4656510908468559872 ≠ .nan ∧ Jvm.FP.Core.val64 13879882945323335680 ≠ .nan ∧ Jvm.FP.Core.zmag Jvm.FP.Core.b64 (Jvm.FP.Core.val64 4656510908468559872) = 2000 * Jvm.FP.Core.one64 := by
  have h := Jvm.FP.Core.i2d_int 2000
  rw [show Jvm.FP.Core.i2d 2000 = 4656510908468559872 by decide +kernel] at h
  have g := Jvm.FP.Core.i2d_int (-2000)
  rw [show Jvm.FP.Core.i2d (-2000) = 13879882945323335680 by decide +kernel] at g
  refine ⟨Jvm.FP.Core.DInt_zval h, ?_, Jvm.FP.Core.DInt_ne_nan h, Jvm.FP.Core.DInt_ne_nan g, by decide +kernel⟩
  rw [Jvm.FP.Core.DInt_zval g, show (-2000 : Int32).toInt = -2000 from rfl, Int.neg_mul]
theorem sg_abs {s : Bool} {m : Nat} {i : Int} {u : Nat} (h : Jvm.FP.Core.signed s m = i * (u : Int)) : m = i.natAbs * u := by
  have := congrArg Int.natAbs h
  rw [Int.natAbs_mul, Int.natAbs_natCast] at this
  rw [← this]
  unfold Jvm.FP.Core.signed
  split
  · rw [Int.natAbs_neg, Int.natAbs_natCast]
  · rw [Int.natAbs_natCast]
theorem mul4 (a b c : Nat) : a * b * c * c = a * c * (b * c) := by rw [Nat.mul_assoc a b c, Nat.mul_comm b c, ← Nat.mul_assoc a c b, Nat.mul_assoc (a * c) b c, Nat.mul_comm b c]
theorem div_bd {x y : Int32} (hx : -32 ≤ x.toInt ∧ x.toInt ≤ 32) (hy : 1 ≤ y.toInt) (hxy : -(2 * y.toInt) ≤ x.toInt ∧ x.toInt ≤ 2 * y.toInt) :
    Jvm.FP.Core.val64 (FP.ddiv (FP.dmul 4652007308841189376 (FP.i2d x)) (FP.i2d y)) ≠ .nan ∧ Jvm.FP.Core.zmag Jvm.FP.Core.b64 (Jvm.FP.Core.val64 (FP.ddiv (FP.dmul 4652007308841189376 (FP.i2d x)) (FP.i2d y))) ≤ 2000 * Jvm.FP.Core.one64 := by
  have hX : Jvm.FP.Core.DInt (1000 * x.toInt) (FP.dmul 4652007308841189376 (FP.i2d x)) := Jvm.FP.Core.dmul_int di_1000 (Jvm.FP.Core.i2d_int x) (by omega)
  have hY : Jvm.FP.Core.DInt y.toInt (FP.i2d y) := Jvm.FP.Core.i2d_int y
  have zX := Jvm.FP.Core.DInt_zval hX
  have zY := Jvm.FP.Core.DInt_zval hY
  have nX := Jvm.FP.Core.DInt_ne_nan hX
  have fX := Jvm.FP.Core.val64_fits (FP.dmul 4652007308841189376 (FP.i2d x))
  have fY := Jvm.FP.Core.val64_fits (FP.i2d y)
  have e : Jvm.FP.Core.val64 (FP.ddiv (FP.dmul 4652007308841189376 (FP.i2d x)) (FP.i2d y)) = Jvm.FP.Core.quotient Jvm.FP.Core.b64 (Jvm.FP.Core.val64 (FP.dmul 4652007308841189376 (FP.i2d x))) (Jvm.FP.Core.val64 (FP.i2d y)) := Jvm.FP.Core.val64_ddiv _ _
  rw [e]
  unfold Jvm.FP.Core.DInt at hX hY
  generalize Jvm.FP.Core.val64 (FP.dmul 4652007308841189376 (FP.i2d x)) = X at hX zX fX
  generalize Jvm.FP.Core.val64 (FP.i2d y) = Y at hY zY fY
  cases X with
  | nan => exact hX.elim
  | inf s => exact hX.elim
  | fin s c q =>
    cases Y with
    | nan => exact hY.elim
    | inf t => exact hY.elim
    | fin t d r =>
      have aX := sg_abs (i := 1000 * x.toInt) (u := Jvm.FP.Core.one64) zX
      have aY := sg_abs (i := y.toInt) (u := Jvm.FP.Core.one64) zY
      have hone := Jvm.FP.Core.one64_pos
      have hd : d ≠ 0 := by
        intro h0
        have h2 : Jvm.FP.Core.zmag Jvm.FP.Core.b64 (.fin t d r) = 0 := by
          rw [h0]
          show 0 * _ = 0
          exact Nat.zero_mul _
        rw [h2] at aY
        have := Nat.mul_pos (show 0 < y.toInt.natAbs by omega) hone
        omega
      show Jvm.FP.Core.quotient Jvm.FP.Core.b64 (.fin s c q) (.fin t d r) ≠ .nan ∧ _
      have eq : Jvm.FP.Core.quotient Jvm.FP.Core.b64 (.fin s c q) (.fin t d r) = Jvm.FP.Core.roundRatio Jvm.FP.Core.b64 (s != t) c d (q - r) := by
        show (if d = 0 then _ else _) = _
        rw [if_neg hd]
      rw [eq]
      refine ⟨Jvm.FP.Core.roundRatio_ne_nan _ _ _ _ _, ?_⟩
      have hq := fX.2.1
      have hr := fY.2.1
      rw [Jvm.FP.Core.qmin_b64] at hq hr
      rw [← zv_2000.2.2.2.2]
      refine Jvm.FP.Core.zmag_roundRatio_le (e0 := -2148 - r) Jvm.FP.Core.good_b64 (Nat.pos_of_ne_zero hd) (Jvm.FP.Core.val64_fits _) zv_2000.2.2.1 (by rw [Jvm.FP.Core.qmin_b64]; omega) (by omega) ?_
      rw [zv_2000.2.2.2.2]
      have uX : c * 2 ^ (q + 1074).toNat = (1000 * x.toInt).natAbs * Jvm.FP.Core.one64 := by
        rw [← aX]
        show _ = c * 2 ^ (q - Jvm.FP.Core.b64.qmin).toNat
        rw [Jvm.FP.Core.qmin_b64, show q - -1074 = q + 1074 by omega]
      have uY : d * 2 ^ (r + 1074).toNat = y.toInt.natAbs * Jvm.FP.Core.one64 := by
        rw [← aY]
        show _ = d * 2 ^ (r - Jvm.FP.Core.b64.qmin).toNat
        rw [Jvm.FP.Core.qmin_b64, show r - -1074 = r + 1074 by omega]
      show c * 2 ^ (q - r - (-2148 - r)).toNat ≤ _
      rw [show (q - r - (-2148 - r)).toNat = (q + 1074).toNat + 1074 by omega, Jvm.FP.Core.qmin_b64, show (-1074 - (-2148 - r)).toNat = (r + 1074).toNat by omega, Nat.pow_add, ← Nat.mul_assoc, uX]
      rw [Nat.mul_assoc (2000 * Jvm.FP.Core.one64), Nat.mul_comm (2 ^ (r + 1074).toNat) d, uY]
      rw [show (2 : Nat) ^ 1074 = Jvm.FP.Core.one64 from rfl]
      have h1 : (1000 * x.toInt).natAbs ≤ 2000 * y.toInt.natAbs := by omega
      calc (1000 * x.toInt).natAbs * Jvm.FP.Core.one64 * Jvm.FP.Core.one64 ≤ 2000 * y.toInt.natAbs * Jvm.FP.Core.one64 * Jvm.FP.Core.one64 := Nat.mul_le_mul_right _ (Nat.mul_le_mul_right _ h1)
        _ = 2000 * Jvm.FP.Core.one64 * (y.toInt.natAbs * Jvm.FP.Core.one64) := mul4 _ _ _
/-- in words of the compares -/
def Spd (v : UInt64) : Prop := ¬ Op.cmpValue (FP.dcmp v 13879882945323335680) .l < 0 ∧ ¬ 0 < Op.cmpValue (FP.dcmp v 4656510908468559872) .g
theorem spd_of {v : UInt64} (hn : Jvm.FP.Core.val64 v ≠ .nan) (hm : Jvm.FP.Core.zmag Jvm.FP.Core.b64 (Jvm.FP.Core.val64 v) ≤ 2000 * Jvm.FP.Core.one64) : Spd v := by
  obtain ⟨z1, z2, n1, n2, -⟩ := zv_2000
  have hz : -(2000 * (Jvm.FP.Core.one64 : Int)) ≤ Jvm.FP.Core.zval Jvm.FP.Core.b64 (Jvm.FP.Core.val64 v) ∧ Jvm.FP.Core.zval Jvm.FP.Core.b64 (Jvm.FP.Core.val64 v) ≤ 2000 * (Jvm.FP.Core.one64 : Int) := by
    unfold Jvm.FP.Core.zval Jvm.FP.Core.signed
    split
    · constructor <;> omega
    · constructor <;> omega
  have g1 : Jvm.FP.Core.dcmp v 13879882945323335680 = some .gt ∨ Jvm.FP.Core.dcmp v 13879882945323335680 = some .eq := Jvm.FP.Core.dcmp_ge.mpr ⟨hn, n2, by rw [z2]; exact hz.1⟩
  have g2 : Jvm.FP.Core.dcmp v 4656510908468559872 = some .lt ∨ Jvm.FP.Core.dcmp v 4656510908468559872 = some .eq := Jvm.FP.Core.dcmp_le.mpr ⟨hn, n1, by rw [z1]; exact hz.2⟩
  constructor
  · show ¬ Op.cmpValue (Jvm.FP.Core.dcmp v 13879882945323335680) .l < 0
    rcases g1 with q | q <;> rw [q] <;> decide
  · show ¬ 0 < Op.cmpValue (Jvm.FP.Core.dcmp v 4656510908468559872) .g
    rcases g2 with q | q <;> rw [q] <;> decide
theorem gspd {σ : Sg} {q L O : Nat} {s : Int32} {E : Nat → Nat → Int32} (hL : LgN σ q s E L O) : ∀ (n i : Nat) (x y : Int32), i ≤ L → L + 1 ≤ i + n → ((i : Int) ≤ y.toInt ∧ y.toInt ≤ 1000 * i) → (-(2 * (i : Int)) ≤ x.toInt ∧ x.toInt ≤ 2 * i) → Spd (gf_X1_speed σ q L n x y i) := by
  intro n
  induction n with
  | zero => intro i x y h1 h2; exact absurd h2 (by omega)
  | succ n ih =>
    intro i x y h1 h2 hy hx
    have l1 := hL.1
    rw [gf_X1_speed]
    by_cases c : L ≤ i
    · rw [if_pos c]
      by_cases c2 : 1 ≤ y
      · rw [if_pos c2]
        have c3 := i1_le.mp c2
        obtain ⟨d1, d2⟩ := div_bd (x := x) (y := y) ⟨by omega, by omega⟩ c3 ⟨by omega, by omega⟩
        exact spd_of d1 d2
      · rw [if_neg c2]
        constructor <;> decide +kernel
    · rw [if_neg c]
      have hL' := hL
      obtain ⟨-, l2, l3, l4, l6, l7⟩ := hL
      have es := l6 (L - 1 - i) (by omega) 0 (by omega)
      have ep := l6 (L - 1 - i) (by omega) 1 (by omega)
      obtain ⟨-, n2, n3, -⟩ := l7 (L - 1 - i) (by omega)
      rw [show L - 1 - (L - 1 - i) = i by omega] at es ep
      rw [spent_nI l4 (by omega), step_nI l4 (by omega), es, ep]
      refine ih (i + 1) _ _ (by omega) (by omega) ?_ ?_
      · rw [Int32.toInt_add, bm (by omega) (by omega)]
        omega
      · rw [Int32.toInt_add, bm (by omega) (by omega)]
        omega
theorem spd_ok {σ : Sg} {k L B : Nat} {E : Nat → Nat → Int32} (hS : SnN σ k E L B) : Spd (f_X1_speed σ (k + 1)) := by
  obtain ⟨-, -, -, -, O, hL⟩ := hS
  have e1 : Ln σ (k + 1) = L := by unfold Ln; rw [hL.2.2.1]; exact nI_clamp (by have := hL.1; omega)
  unfold f_X1_speed
  rw [e1]
  exact gspd hL 17 0 0 0 (by omega) (by have := hL.1; omega) ⟨by decide, by decide⟩ ⟨by decide, by decide⟩
end
section
/-! the law's methods: their rows -/
section RowsK
variable {p : Program} {l : Launch} {e : Env} {Rm : Room} {s : State} {m : MethodId} {args : Array Value} {below : List Frame} {meth : Method} {c : Code} {H : Heap} {locs : List Loc} {cells slots : Nat} {Q : State → Prop}
variable {cc : ByteArray} {nl : Nat} {rt : Option FieldType} {own : String} {D : va_G} {cy : Nat → ClassId} {z : Nat} {σ τ σ' τ' σ2 : Sg} {o : Int64} {d : UInt64} {pc : Nat} {ls : Array Slot} {rest st : List Value} {t : Nat}
theorem okE_I {st0 : List Value} {a : Array Value} {r r' : Int32} (h0 : t = 0) (he : r = r') (hs : σ' = σ2) (hr : vx_Run p l e Rm s m args below meth c H locs cells slots (tcc t) (tcs t) (F0 m pc ls st0) rest (PoTI D cy z o d t r σ' τ' a) (XP D cy z o d t σ' τ') (fz z)) (hS : va_S (fz z) s.heap H locs)
    (kk : ∀ (H1 : Heap) (locs1 : List Loc), WP D cy z σ2 τ' o d H1 → va_S (fz z) s.heap H1 locs1 → W p l e Rm s m args below meth c H1 locs1 cells slots Q (F0 m (pc + 3) ls (.int r' :: rest))) : W p l e Rm s m args below meth c H locs cells slots Q (F0 m pc ls st0) := by
  subst he
  subst hs
  exact okT_I h0 hr hS kk
theorem okE_D {st0 : List Value} {a : Array Value} {r r' : UInt64} (h0 : t = 0) (he : r = r') (hs : σ' = σ2) (hr : vx_Run p l e Rm s m args below meth c H locs cells slots (tcc t) (tcs t) (F0 m pc ls st0) rest (PoTD D cy z o d t r σ' τ' a) (XP D cy z o d t σ' τ') (fz z)) (hS : va_S (fz z) s.heap H locs)
    (kk : ∀ (H1 : Heap) (locs1 : List Loc), WP D cy z σ2 τ' o d H1 → va_S (fz z) s.heap H1 locs1 → W p l e Rm s m args below meth c H1 locs1 cells slots Q (F0 m (pc + 3) ls (.double r' :: rest))) : W p l e Rm s m args below meth c H locs cells slots Q (F0 m pc ls st0) := by
  subst he
  subst hs
  exact okT_D h0 hr hS kk
theorem thnE_I {st0 : List Value} {a : Array Value} {r r' : Int32} (he : r = r') (hs : σ' = σ2) (hr : va_Run p l e Rm s m args below meth c H locs cells slots 0 0 (F0 m pc ls st0) rest (PoI D cy z o d r σ' τ' a) (fz z)) (hS : va_S (fz z) s.heap H locs)
    (kk : ∀ (H1 : Heap) (locs1 : List Loc), WP D cy z σ2 τ' o d H1 → va_S (fz z) s.heap H1 locs1 → W p l e Rm s m args below meth c H1 locs1 cells slots Q (F0 m (pc + 3) ls (.int r' :: rest))) : W p l e Rm s m args below meth c H locs cells slots Q (F0 m pc ls st0) := by
  subst he
  subst hs
  exact thn_I hr hS kk
theorem tab_at (C : Bd p s m args meth c cc nl rt own D cy z) {dflt lo hi : Int} {offs : Array Int} {len : Nat} {x : Int32} {tgt : Nat} (hdg : decode cc pc = .ok (.tableswitch dflt lo hi offs, len)) (h : ¬ x.toInt < lo ∧ ¬ hi < x.toInt ∧ ∃ off, offs[(x.toInt - lo).toNat]? = some off ∧ (pc : Int) + off = (tgt : Int))
    (kk : W p l e Rm s m args below meth c H locs cells slots Q (F0 m tgt ls rest)) : W p l e Rm s m args below meth c H locs cells slots Q (F0 m pc ls (.int x :: rest)) := by
  obtain ⟨hx, hb, hr, hml, hown, hW, hlocks, hAm⟩ := C
  obtain ⟨h1, h2, off, h3, h4⟩ := h
  exact lv_tableIn hx hb hdg h1 h2 h3 h4 kk
/-- with the script in sight -/
def PreX (D : va_G) (cy : Nat → ClassId) (z b L : Nat) (xs : Nat → Int32) (As : List Value) (σ τ : Sg) (o : Int64) (d : UInt64) : Array Value → State → Prop := va_Pc As (fun U => WP D cy z σ τ o d U.heap ∧ Amb D cy z U U.heap ∧ va_X b L xs U U.heap ∧ b < z)
theorem PreX.blind {D : va_G} {cy : Nat → ClassId} {z b L : Nat} {xs : Nat → Int32} {As : List Value} {σ τ : Sg} {o : Int64} {d : UInt64} : FrameBlind (PreX D cy z b L xs As σ τ o d) := by
  intro a U g mk h
  obtain ⟨h1, h2, h3, h4, h5⟩ := h
  exact ⟨h1, h2, h3.same (U := U.calling g mk a) rfl, h4, h5⟩
def KX (l : Launch) (y : MethodName) (bc : ByteArray) (nl : Nat) (rt : Option FieldType) (rm : Room) (D : va_G) (cy : Nat → ClassId) (z b L : Nat) (xs : Nat → Int32) (As : List Value) (o : Int64) (d : UInt64) (σ τ : Sg) (r : Int32) : Prop :=
  Met l y (.code y bc nl rt :: WA) rm (PreX D cy z b L xs As σ τ o d) (PoI D cy z o d r σ τ) 0 0 (fz z)
theorem metX_of {y : MethodName} {bc : ByteArray} {rm : Room} {b L : Nat} {xs : Nat → Int32} {As : List Value} {Qc : Array Value → State → Outcome → State → Prop} (own : String) (hy : plainFor y = true) (ho : y.cls = own) (hn : (lg_sl As).length ≤ nl)
    (body : ∀ p e s m args below meth c, Bd p s m args meth c bc nl rt own D cy z → va_X b L xs s s.heap → b < s.heap.size → b < z → WP D cy z σ τ o d s.heap → va_S (fz z) s.heap s.heap [] → ∀ ls : Array Slot, lv_has ls nl (lv_args 0 As) → W p l e rm s m args below meth c s.heap [] 0 0 (MQ below Qc args s 0 0 (fz z)) (F0 m 0 ls [])) :
    Met l y (.code y bc nl rt :: WA) rm (PreX D cy z b L xs As σ τ o d) Qc 0 0 (fz z) := by
  refine met_body (cc := bc) (maxL := nl) (ret := rt) hy rfl ?_
  intro p e s m args below meth c s₁ B hml hv
  obtain ⟨rfl, hP, hAm, hX, hbz⟩ := hv
  have hts := atoms_spec (ws := .code y bc nl rt :: WA) B.pre
  have hown : s.vm.findClass own = some m.cls := by rw [← ho]; exact findClass_of_methodNamed B.named
  have hbl : b < s.heap.size := by
    obtain ⟨scr, h1, -⟩ := hX
    exact (Array.getElem?_eq_some_iff.mp h1).1
  rw [lg_entry_eq]
  exact body p e s m As.toArray below meth c ⟨B.exec, B.bytes, B.returns, hml, hown, fun w h => hts w (List.mem_cons_of_mem _ h), B.notSynchronized, hAm⟩ hX hbl hbz hP va_S.rf _ (lv_entry As hn)
theorem run_X (C : Bd p s m args meth c cc nl rt own D cy z) {b L : Nat} {xs : Nat → Int32} (hX : va_X b L xs s s.heap) (hbl : b < s.heap.size) (hbz : b < z) {y : MethodName} {bc : ByteArray} {nl' : Nat} {rt' : Option FieldType} {rm : Room} {As : List Value} {r : Int32} {idx : Nat}
    (hM : KX l y bc nl' rt' rm D cy z b L xs As o d σ τ r) (hP : WP D cy z σ τ o d H) (hS : va_S (fz z) s.heap H locs) (cw : cwSt y bc nl' rt' As.length) (ml : Cond.methodLink own idx y ∈ WA) (h0 : rm.cells = 0 ∧ rm.slots = 0)
    (hR : rm.frames + 1 ≤ Rm.frames ∧ 8 + (nl' + 11) + rm.locals ≤ Rm.locals) (hst : st = As.reverse ++ rest) (hrest : (rest.map fun v => v.category).sum ≤ 8) (hsz : ls.size = nl) (hcs : cells ≤ Rm.cells ∧ slots ≤ Rm.slots) (hdg : decode cc pc = .ok (.invokestatic idx, 3)) :
    va_Run p l e Rm s m args below meth c H locs cells slots 0 0 (F0 m pc ls st) rest (PoI D cy z o d r σ τ As.toArray) (fz z) := by
  obtain ⟨hx, hb, hr, hml, hown, hW, hlocks, hAm⟩ := C
  obtain ⟨w1, w3, w4, hy1, hy2, hy3⟩ := cw
  exact va_runS (As := As) (rest := rest) ⟨hx, hb, hml, hown, hW⟩ hM (va_cwS As.length hW (wa_app (ws := [.methodLink own idx y, .static y, .initialized y.cls]) (by
    intro w hw
    simp only [List.mem_cons, List.not_mem_nil, or_false] at hw
    rcases hw with rfl | rfl | rfl <;> assumption) w4) rfl h0.1 h0.2 ⟨hy1, hy2, hy3⟩ hR)
    ⟨PreX.blind, fun U hU hW' => ⟨rfl, by rw [hU]; exact hP, hAm.warm hW' (by rw [hU]; exact hS.2.1), (by rw [hU]; exact (hX.moved hW'.alike).kept (hS.2.1 b hbl (fun q => absurd hbz (Nat.not_lt.mpr q)))), hbz⟩⟩ rfl rfl hsz hst (lv_room hrest) hdg hcs
end RowsK
/-- numbers of the script, made small -/
def lowN (v : Int32) (n : Nat) : Nat := (v &&& 2147483647).toNatClampNeg % n
theorem and_nn (v : Int32) : 0 ≤ (v &&& 2147483647).toInt := by
  have : (v &&& 2147483647).toBitVec.msb = decide ((v &&& 2147483647).toBitVec.toInt < 0) := BitVec.msb_eq_toInt
  have h2 : (v &&& 2147483647).toBitVec.msb = false := by
    rw [Int32.toBitVec_and, BitVec.msb_and, show (2147483647 : Int32).toBitVec.msb = false from rfl, Bool.and_false]
  rw [h2] at this
  have h3 := of_decide_eq_false this.symm
  show 0 ≤ (v &&& 2147483647).toBitVec.toInt
  omega
theorem cw_L_low : cwSt yL_low cL_low 2 (some .int) 2 := ⟨(mA1 (i := 185) rfl rfl), (mA1 (i := 0) rfl rfl), (mA1 (i := 186) rfl rfl), by decide +kernel⟩
abbrev rm_L_low : Room := { frames := 0, cells := 0, slots := 0, locals := 0 }
def f_L_low  (x : Int32) (y : Int32) : Int32 :=
  (x &&& 2147483647) - (x &&& 2147483647) / y * y
set_option maxHeartbeats 4000000 in
set_option maxRecDepth 100000 in
theorem k_L_low (l : Launch) (D : va_G) (cy : Nat → ClassId) (z : Nat) (o : Int64) (d : UInt64) (σ τ : Sg) (x : Int32) (y : Int32) (hne : ¬ y = 0) : KI l yL_low cL_low 2 (some .int) rm_L_low D cy z [.int x, .int y] o d σ τ (f_L_low x y) σ τ := by
  refine met_of RL (plainFor_of_name (by decide)) rfl (Nat.le_of_ble_eq_true rfl) ?_
  intro p e s m args below meth c C hP hS ls hl
  obtain ⟨hx, hb, hr, hml, hown, hW, hlocks, hAm⟩ := id C
  have hl : lv_has ls 2 [(0, .int x), (1, .int y)] := hl
  refine lv_iload_n hx hb dL_low_0 rfl (lv_at hl 0 rfl) ?_
  refine lv_ldc (v := 2147483647) hx hb hown (hW _ (mA1 (i := 187) rfl rfl)) dL_low_1 ?_
  refine lv_iand hx hb dL_low_3 ?_
  refine lv_iload_n hx hb dL_low_4 rfl (lv_at hl 1 rfl) ?_
  refine lv_irem hx hb dL_low_5 hne ?_
  exact ret_I C hP hS (nar_i _) rfl rfl rfl rfl dL_low_6

theorem cw_L_size : cwSt yL_size cL_size 1 (some .int) 1 := ⟨(mA2 (i := 170) rfl rfl), (mA1 (i := 0) rfl rfl), (mA2 (i := 171) rfl rfl), by decide +kernel⟩
abbrev rm_L_size : Room := { frames := 0, cells := 0, slots := 0, locals := 0 }
def f_L_size  (x : Int32) : Int32 :=
  if 0 ≤ x then
    x
  else
    -x
set_option maxHeartbeats 4000000 in
set_option maxRecDepth 100000 in
theorem k_L_size (l : Launch) (D : va_G) (cy : Nat → ClassId) (z : Nat) (o : Int64) (d : UInt64) (σ τ : Sg) (x : Int32) : KI l yL_size cL_size 1 (some .int) rm_L_size D cy z [.int x] o d σ τ (f_L_size x) σ τ := by
  refine met_of RL (plainFor_of_name (by decide)) rfl (Nat.le_of_ble_eq_true rfl) ?_
  intro p e s m args below meth c C hP hS ls hl
  obtain ⟨hx, hb, hr, hml, hown, hW, hlocks, hAm⟩ := id C
  have hl : lv_has ls 1 [(0, .int x)] := hl
  refine lv_iload_n hx hb dL_size_0 rfl (lv_at hl 0 rfl) ?_
  refine lv_if_ge (tgt := 9) hx hb dL_size_1 (by decide) (fun c_1 => ?_) (fun c_1 => ?_)
  · refine lv_iload_n hx hb dL_size_9 rfl (lv_at hl 0 rfl) ?_
    exact ret_I C hP hS (nar_i _) rfl (by unfold f_L_size; rw [if_pos c_1]) rfl rfl dL_size_10
  · refine lv_iload_n hx hb dL_size_4 rfl (lv_at hl 0 rfl) ?_
    refine lv_ineg hx hb dL_size_5 ?_
    refine lv_goto (tgt := 10) hx hb dL_size_6 (by decide) ?_
    exact ret_I C hP hS (nar_i _) rfl (by unfold f_L_size; rw [if_neg c_1]) rfl rfl dL_size_10

theorem low_ok (v : Int32) (n : Nat) (h1 : 1 ≤ n) (h2 : n ≤ 1000) : f_L_low v (nI n) = nI (lowN v n) ∧ lowN v n < n := by
  have hn : (nI n).toInt = (n : Int) := nI_int (by omega)
  have h0 := and_nn v
  have hc := (i32_nat (v &&& 2147483647)).2 h0
  have hlt : lowN v n < n := Nat.mod_lt _ h1
  refine ⟨?_, hlt⟩
  apply Int32.toInt_inj.mp
  unfold f_L_low
  rw [(rem_int (x := v &&& 2147483647) (y := nI n) (by omega)).2.2, hn, nI_int (by omega), ← hc]
  unfold lowN
  exact (Int.ofNat_tmod _ _).symm
theorem size_ab (x : Int32) : f_L_size x = ab x := by
  unfold f_L_size ab
  split
  · rfl
  · rw [Int32.zero_sub]
end
section
/-! the law's isFelt -/
theorem felt_facts {σ σ1 : Sg} {B B' i L : Nat} {y w : Int32} {E : Nat → Nat → Int32} (h : GN B σ) (hS : SnN σ (1 + 1 + 3 * i) E L B) (hi : i < 4) (hy : St y) (fS : SnN σ1 (1 + 1 + 3 * i) (psh E (f_X4_stepUnder σ (1 + 1 + 3 * i) (σ 1 4) y) w (σ (1 + 1 + 3 * i) 1)) (lL L) B') (fk : σ1 (1 + 1 + 3 * i) = snK σ (1 + 1 + 3 * i) y (f_X4_stepUnder σ (1 + 1 + 3 * i) (σ 1 4) y) w) (f1 : σ1 1 = σ 1) :
    ((σ (1 + 1 + 3 * i) 1 ^^^ y = 3 → σ1 (1 + 1 + 3 * i) 8 = σ (1 + 1 + 3 * i) 8 + 1) ∧ (¬ σ (1 + 1 + 3 * i) 1 ^^^ y = 3 → σ1 (1 + 1 + 3 * i) 8 = σ (1 + 1 + 3 * i) 8 + 0)) ∧
    ((¬ 16 ≤ σ ((1 + 1 + 3 * i) + 1) 2 → σ1 ((1 + 1 + 3 * i) + 1) 2 = σ ((1 + 1 + 3 * i) + 1) 2 + 1) ∧ (16 ≤ σ ((1 + 1 + 3 * i) + 1) 2 → σ1 ((1 + 1 + 3 * i) + 1) 2 = 16)) ∧
    (x_X5_loggedStep σ1 0 (nI i) (σ1 ((1 + 1 + 3 * i) + 1) 2 - 1) = 0 ∧ f_X5_loggedStep σ1 0 (nI i) (σ1 ((1 + 1 + 3 * i) + 1) 2 - 1) = (f_X4_stepUnder σ (1 + 1 + 3 * i) (σ 1 4) y)) ∧
    ((¬ (f_X4_stepUnder σ (1 + 1 + 3 * i) (σ 1 4) y) ≤ 0 → σ1 (1 + 1 + 3 * i) 3 = 1) ∧ ((f_X4_stepUnder σ (1 + 1 + 3 * i) (σ 1 4) y) ≤ 0 → ¬ 0 ≤ (f_X4_stepUnder σ (1 + 1 + 3 * i) (σ 1 4) y) → σ1 (1 + 1 + 3 * i) 3 = -1) ∧ ((f_X4_stepUnder σ (1 + 1 + 3 * i) (σ 1 4) y) ≤ 0 → 0 ≤ (f_X4_stepUnder σ (1 + 1 + 3 * i) (σ 1 4) y) → σ1 (1 + 1 + 3 * i) 3 = σ (1 + 1 + 3 * i) 3)) ∧
    (¬ σ (1 + 1 + 3 * i) 1 ^^^ y = 3 → ¬ (f_X4_stepUnder σ (1 + 1 + 3 * i) (σ 1 4) y) < -1 ∧ ¬ 1 < (f_X4_stepUnder σ (1 + 1 + 3 * i) (σ 1 4) y)) ∧
    (σ (1 + 1 + 3 * i) 1 ^^^ y = 3 → (σ1 1 4 = 0 → (f_X4_stepUnder σ (1 + 1 + 3 * i) (σ 1 4) y) = 0) ∧ (¬ σ1 1 4 = 0 → (f_X4_stepUnder σ (1 + 1 + 3 * i) (σ 1 4) y) = 2 * σ (1 + 1 + 3 * i) 3)) := by
  have hl : σ ((1 + 1 + 3 * i) + 1) 2 = nI L := hS.2.2.2.2.choose_spec.2.2.1
  have hL : L ≤ 16 := hS.2.2.2.2.choose_spec.1
  have hl1 : σ1 ((1 + 1 + 3 * i) + 1) 2 = nI (lL L) := fS.2.2.2.2.choose_spec.2.2.1
  have hL1 : lL L ≤ 16 := fS.2.2.2.2.choose_spec.1
  have hpos : 1 ≤ lL L := by unfold lL; split <;> omega
  have hd : σ1 (1 + 1 + 3 * i) 3 = dirOf (f_X4_stepUnder σ (1 + 1 + 3 * i) (σ 1 4) y) (σ (1 + 1 + 3 * i) 3) := by rw [fk]; rfl
  refine ⟨⟨fun q => ?_, fun q => ?_⟩, ⟨fun q => ?_, fun q => ?_⟩, ?_, ⟨fun q => ?_, fun q q2 => ?_, fun q q2 => ?_⟩, fun q => ?_, fun q => ?_⟩
  · rw [fk]
    exact (if_pos q : (if σ (1 + 1 + 3 * i) 1 ^^^ y = 3 then σ (1 + 1 + 3 * i) 8 + 1 else σ (1 + 1 + 3 * i) 8) = _)
  · rw [fk, Int32.add_zero]
    exact (if_neg q : (if σ (1 + 1 + 3 * i) 1 ^^^ y = 3 then σ (1 + 1 + 3 * i) 8 + 1 else σ (1 + 1 + 3 * i) 8) = _)
  · rw [hl1, hl, nI_1]
    rw [hl, show (16 : Int32) = nI 16 from rfl, nI_leI (by omega) (by omega)] at q
    unfold lL
    rw [if_neg (by omega)]
  · rw [hl1]
    rw [hl, show (16 : Int32) = nI 16 from rfl, nI_leI (by omega) (by omega)] at q
    unfold lL
    rw [if_pos (by omega)]
    rfl
  · rw [hl1, show nI (lL L) - 1 = nI (lL L - 1) from pk_sub (a := lL L) (b := 1) hpos]
    refine ⟨rx_loggedStep hi hL1 hl1 (by omega), ?_⟩
    rw [rd_loggedStep hi fS (by omega), Nat.sub_self]
    rfl
  · rw [hd]
    unfold dirOf
    rw [if_neg q]
  · rw [hd]
    unfold dirOf
    rw [if_pos q, if_neg q2]
  · rw [hd]
    unfold dirOf
    rw [if_pos q, if_pos q2]
  · unfold f_X4_stepUnder
    rw [if_neg q]
    split
    · decide
    · split <;> decide
  · rw [f1]
    unfold f_X4_stepUnder
    rw [if_pos q]
    rcases h.2.1 with e | e
    · rw [e]
      exact ⟨fun _ => by rw [if_neg (by decide)], fun q2 => absurd rfl q2⟩
    · rw [e]
      exact ⟨fun q2 => absurd q2 (by decide), fun _ => by rw [if_pos rfl]⟩
theorem cw_L_isFelt : cwSt yL_isFelt cL_isFelt 13 (some .boolean) 4 := ⟨(mA1 (i := 192) rfl rfl), (mA1 (i := 0) rfl rfl), (mA1 (i := 193) rfl rfl), by decide +kernel⟩
abbrev rm_L_isFelt : Room := { frames := 8, cells := 0, slots := 0, locals := 129 }
set_option maxHeartbeats 4000000 in
set_option maxRecDepth 100000 in
theorem k_L_isFelt (l : Launch) (hfl : l.stackTraces = false) (D : va_G) (cy : Nat → ClassId) (z : Nat) (o : Int64) (d : UInt64) (τ : Sg) {σ : Sg} {B i L : Nat} {y w : Int32} {E : Nat → Nat → Int32} (h : GN B σ) (hN : SnN σ (1 + 1 + 3 * i) E L B) (hi : i < 4) (hy : St y) (hw : 1 ≤ w.toInt ∧ w.toInt ≤ 1000) (hB : B + 20000 ≤ 1000000000) : KI l yL_isFelt cL_isFelt 13 (some .boolean) rm_L_isFelt D cy z [.ref (z + 0), .int (nI i), .int y, .int w] o d σ τ 1 (s_X5_feel σ 0 (nI i) y w) τ := by
  refine met_of RL (plainFor_of_name (by decide)) rfl (Nat.le_of_ble_eq_true rfl) ?_
  intro p e s m args below meth c C hP hS ls hl
  obtain ⟨hx, hb, hr, hml, hown, hW, hlocks, hAm⟩ := id C
  have hl : lv_has ls 13 [(0, .ref (z + 0)), (1, .int (nI i)), (2, .int y), (3, .int w)] := hl
  obtain ⟨fx, ff, fG, fS, fk, f1⟩ := feel_ok h hN hi hy hw hB
  obtain ⟨fk8, fl, fg, fd, fn, fy⟩ := felt_facts h hN hi hy fS fk f1
  generalize hs1 : s_X5_feel σ 0 (nI i) y w = σ1 at fG fS fk f1 fk8 fl fg fd fn fy ⊢
  refine lv_aload_n hx hb dL_isFelt_0 rfl (lv_at hl 0 rfl) ?_
  refine lv_iload_n hx hb dL_isFelt_1 rfl (lv_at hl 1 rfl) ?_
  refine lv_iload_n hx hb dL_isFelt_2 rfl (lv_at hl 2 rfl) ?_
  refine okE_I (rx_stepTo hi hy) (rd_stepTo hi hy) rfl (runT_V (As := [.int (nI i), .int y]) (rest := []) C (k_X5_stepTo l hfl D cy z o d σ τ (rfl : kd 0 = 5) (nI i) y) hP hS cw_X5_stepTo (mA1 (i := 194) rfl rfl) (rfl : kd 0 = 5) ⟨Nat.le_of_ble_eq_true rfl, Nat.le_of_ble_eq_true rfl⟩ rfl (Nat.le_of_ble_eq_true rfl) hl.1 (tcc_0 (rx_stepTo hi hy) ⟨Nat.zero_le _, Nat.zero_le _⟩) dL_isFelt_3) hS (fun H locs hP hS => ?_)
  refine lv_istore (lv' := [(4, .int (f_X4_stepUnder σ (1 + 1 + 3 * i) (σ 1 4) y)), (0, .ref (z + 0)), (1, .int (nI i)), (2, .int y), (3, .int w)]) hx hb dL_isFelt_6 hl (by decide) rfl (fun ls hl => ?_)
  refine lv_aload_n hx hb dL_isFelt_8 rfl (lv_at hl 1 rfl) ?_
  refine lv_iload_n hx hb dL_isFelt_9 rfl (lv_at hl 2 rfl) ?_
  refine okE_I (rx_positionOf hi) (rd_positionOf hi) rfl (runT_V (As := [.int (nI i)]) (rest := []) C (k_X5_positionOf l hfl D cy z o d σ τ (rfl : kd 0 = 5) (nI i)) hP hS cw_X5_positionOf (mA2 (i := 64) rfl rfl) (rfl : kd 0 = 5) ⟨Nat.le_of_ble_eq_true rfl, Nat.le_of_ble_eq_true rfl⟩ rfl (Nat.le_of_ble_eq_true rfl) hl.1 (tcc_0 (rx_positionOf hi) ⟨Nat.zero_le _, Nat.zero_le _⟩) dL_isFelt_10) hS (fun H locs hP hS => ?_)
  refine lv_istore (lv' := [(5, .int (σ (1 + 1 + 3 * i) 2)), (4, .int (f_X4_stepUnder σ (1 + 1 + 3 * i) (σ 1 4) y)), (0, .ref (z + 0)), (1, .int (nI i)), (2, .int y), (3, .int w)]) hx hb dL_isFelt_13 hl (by decide) rfl (fun ls hl => ?_)
  refine lv_aload_n hx hb dL_isFelt_15 rfl (lv_at hl 2 rfl) ?_
  refine lv_iload_n hx hb dL_isFelt_16 rfl (lv_at hl 3 rfl) ?_
  refine okE_I (rx_ticksOf hi) (rd_ticksOf hi) rfl (runT_V (As := [.int (nI i)]) (rest := []) C (k_X5_ticksOf l hfl D cy z o d σ τ (rfl : kd 0 = 5) (nI i)) hP hS cw_X5_ticksOf (mA2 (i := 68) rfl rfl) (rfl : kd 0 = 5) ⟨Nat.le_of_ble_eq_true rfl, Nat.le_of_ble_eq_true rfl⟩ rfl (Nat.le_of_ble_eq_true rfl) hl.1 (tcc_0 (rx_ticksOf hi) ⟨Nat.zero_le _, Nat.zero_le _⟩) dL_isFelt_17) hS (fun H locs hP hS => ?_)
  refine lv_istore (lv' := [(6, .int (σ (1 + 1 + 3 * i) 11)), (5, .int (σ (1 + 1 + 3 * i) 2)), (4, .int (f_X4_stepUnder σ (1 + 1 + 3 * i) (σ 1 4) y)), (0, .ref (z + 0)), (1, .int (nI i)), (2, .int y), (3, .int w)]) hx hb dL_isFelt_20 hl (by decide) rfl (fun ls hl => ?_)
  refine lv_aload_n hx hb dL_isFelt_22 rfl (lv_at hl 3 rfl) ?_
  refine lv_iload_n hx hb dL_isFelt_23 rfl (lv_at hl 4 rfl) ?_
  refine okE_I (rx_logLength hi) (rd_logLength hi) rfl (runT_V (As := [.int (nI i)]) (rest := []) C (k_X5_logLength l hfl D cy z o d σ τ (rfl : kd 0 = 5) (nI i)) hP hS cw_X5_logLength (mA2 (i := 72) rfl rfl) (rfl : kd 0 = 5) ⟨Nat.le_of_ble_eq_true rfl, Nat.le_of_ble_eq_true rfl⟩ rfl (Nat.le_of_ble_eq_true rfl) hl.1 (tcc_0 (rx_logLength hi) ⟨Nat.zero_le _, Nat.zero_le _⟩) dL_isFelt_24) hS (fun H locs hP hS => ?_)
  refine lv_istore (lv' := [(7, .int (σ (1 + 1 + 3 * i + 1) 2)), (6, .int (σ (1 + 1 + 3 * i) 11)), (5, .int (σ (1 + 1 + 3 * i) 2)), (4, .int (f_X4_stepUnder σ (1 + 1 + 3 * i) (σ 1 4) y)), (0, .ref (z + 0)), (1, .int (nI i)), (2, .int y), (3, .int w)]) hx hb dL_isFelt_27 hl (by decide) rfl (fun ls hl => ?_)
  refine lv_aload_n hx hb dL_isFelt_29 rfl (lv_at hl 4 rfl) ?_
  refine lv_iload_n hx hb dL_isFelt_30 rfl (lv_at hl 5 rfl) ?_
  refine okE_I (rx_directionOf hi) (rd_directionOf hi) rfl (runT_V (As := [.int (nI i)]) (rest := []) C (k_X5_directionOf l hfl D cy z o d σ τ (rfl : kd 0 = 5) (nI i)) hP hS cw_X5_directionOf (mA2 (i := 76) rfl rfl) (rfl : kd 0 = 5) ⟨Nat.le_of_ble_eq_true rfl, Nat.le_of_ble_eq_true rfl⟩ rfl (Nat.le_of_ble_eq_true rfl) hl.1 (tcc_0 (rx_directionOf hi) ⟨Nat.zero_le _, Nat.zero_le _⟩) dL_isFelt_31) hS (fun H locs hP hS => ?_)
  refine lv_istore (lv' := [(8, .int (σ (1 + 1 + 3 * i) 3)), (7, .int (σ (1 + 1 + 3 * i + 1) 2)), (6, .int (σ (1 + 1 + 3 * i) 11)), (5, .int (σ (1 + 1 + 3 * i) 2)), (4, .int (f_X4_stepUnder σ (1 + 1 + 3 * i) (σ 1 4) y)), (0, .ref (z + 0)), (1, .int (nI i)), (2, .int y), (3, .int w)]) hx hb dL_isFelt_34 hl (by decide) rfl (fun ls hl => ?_)
  refine lv_aload_n hx hb dL_isFelt_36 rfl (lv_at hl 5 rfl) ?_
  refine lv_iload_n hx hb dL_isFelt_37 rfl (lv_at hl 6 rfl) ?_
  refine okE_I (rx_stateOf hi) (rd_stateOf hi) rfl (runT_V (As := [.int (nI i)]) (rest := []) C (k_X5_stateOf l hfl D cy z o d σ τ (rfl : kd 0 = 5) (nI i)) hP hS cw_X5_stateOf (mA2 (i := 80) rfl rfl) (rfl : kd 0 = 5) ⟨Nat.le_of_ble_eq_true rfl, Nat.le_of_ble_eq_true rfl⟩ rfl (Nat.le_of_ble_eq_true rfl) hl.1 (tcc_0 (rx_stateOf hi) ⟨Nat.zero_le _, Nat.zero_le _⟩) dL_isFelt_38) hS (fun H locs hP hS => ?_)
  refine lv_iload_n hx hb dL_isFelt_41 rfl (lv_at hl 7 rfl) ?_
  refine lv_ixor hx hb dL_isFelt_42 ?_
  refine lv_iconst (v := 3) hx hb dL_isFelt_43 (by decide) ?_
  refine lv_icmp_ne (tgt := 51) hx hb dL_isFelt_44 (by decide) (fun c_44 => ?_) (fun c_44 => ?_)
  · refine lv_iconst (v := 0) hx hb dL_isFelt_51 (by decide) ?_
    refine lv_istore (lv' := [(9, .int 0), (8, .int (σ (1 + 1 + 3 * i) 3)), (7, .int (σ (1 + 1 + 3 * i + 1) 2)), (6, .int (σ (1 + 1 + 3 * i) 11)), (5, .int (σ (1 + 1 + 3 * i) 2)), (4, .int (f_X4_stepUnder σ (1 + 1 + 3 * i) (σ 1 4) y)), (0, .ref (z + 0)), (1, .int (nI i)), (2, .int y), (3, .int w)]) hx hb dL_isFelt_52 hl (by decide) rfl (fun ls hl => ?_)
    refine lv_aload_n hx hb dL_isFelt_54 rfl (lv_at hl 6 rfl) ?_
    refine lv_iload_n hx hb dL_isFelt_55 rfl (lv_at hl 7 rfl) ?_
    refine okE_I (rx_errorsOf hi) (rd_errorsOf hi) rfl (runT_V (As := [.int (nI i)]) (rest := []) C (k_X5_errorsOf l hfl D cy z o d σ τ (rfl : kd 0 = 5) (nI i)) hP hS cw_X5_errorsOf (mA2 (i := 84) rfl rfl) (rfl : kd 0 = 5) ⟨Nat.le_of_ble_eq_true rfl, Nat.le_of_ble_eq_true rfl⟩ rfl (Nat.le_of_ble_eq_true rfl) hl.1 (tcc_0 (rx_errorsOf hi) ⟨Nat.zero_le _, Nat.zero_le _⟩) dL_isFelt_56) hS (fun H locs hP hS => ?_)
    refine lv_istore (lv' := [(10, .int (σ (1 + 1 + 3 * i) 8)), (9, .int 0), (8, .int (σ (1 + 1 + 3 * i) 3)), (7, .int (σ (1 + 1 + 3 * i + 1) 2)), (6, .int (σ (1 + 1 + 3 * i) 11)), (5, .int (σ (1 + 1 + 3 * i) 2)), (4, .int (f_X4_stepUnder σ (1 + 1 + 3 * i) (σ 1 4) y)), (0, .ref (z + 0)), (1, .int (nI i)), (2, .int y), (3, .int w)]) hx hb dL_isFelt_59 hl (by decide) rfl (fun ls hl => ?_)
    refine lv_aload_n hx hb dL_isFelt_61 rfl (lv_at hl 7 rfl) ?_
    refine lv_iload_n hx hb dL_isFelt_62 rfl (lv_at hl 8 rfl) ?_
    refine okE_I (rx_distanceOf hi) (rd_distanceOf hi) rfl (runT_V (As := [.int (nI i)]) (rest := []) C (k_X5_distanceOf l hfl D cy z o d σ τ (rfl : kd 0 = 5) (nI i)) hP hS cw_X5_distanceOf (mA2 (i := 88) rfl rfl) (rfl : kd 0 = 5) ⟨Nat.le_of_ble_eq_true rfl, Nat.le_of_ble_eq_true rfl⟩ rfl (Nat.le_of_ble_eq_true rfl) hl.1 (tcc_0 (rx_distanceOf hi) ⟨Nat.zero_le _, Nat.zero_le _⟩) dL_isFelt_63) hS (fun H locs hP hS => ?_)
    refine lv_istore (lv' := [(11, .int (σ (1 + 1 + 3 * i) 10)), (10, .int (σ (1 + 1 + 3 * i) 8)), (9, .int 0), (8, .int (σ (1 + 1 + 3 * i) 3)), (7, .int (σ (1 + 1 + 3 * i + 1) 2)), (6, .int (σ (1 + 1 + 3 * i) 11)), (5, .int (σ (1 + 1 + 3 * i) 2)), (4, .int (f_X4_stepUnder σ (1 + 1 + 3 * i) (σ 1 4) y)), (0, .ref (z + 0)), (1, .int (nI i)), (2, .int y), (3, .int w)]) hx hb dL_isFelt_66 hl (by decide) rfl (fun ls hl => ?_)
    refine lv_aload_n hx hb dL_isFelt_68 rfl (lv_at hl 8 rfl) ?_
    refine lv_iload_n hx hb dL_isFelt_69 rfl (lv_at hl 9 rfl) ?_
    refine lv_iload_n hx hb dL_isFelt_70 rfl (lv_at hl 10 rfl) ?_
    refine lv_iload_n hx hb dL_isFelt_71 rfl (lv_at hl 11 rfl) ?_
    refine okE_I fx ff hs1 (runT_V (As := [.int (nI i), .int y, .int w]) (rest := []) C (k_X5_feel l hfl D cy z o d σ τ (rfl : kd 0 = 5) (nI i) y w) hP hS cw_X5_feel (mA2 (i := 92) rfl rfl) (rfl : kd 0 = 5) ⟨Nat.le_of_ble_eq_true rfl, Nat.le_of_ble_eq_true rfl⟩ rfl (Nat.le_of_ble_eq_true rfl) hl.1 (tcc_0 fx ⟨Nat.zero_le _, Nat.zero_le _⟩) dL_isFelt_72) hS (fun H locs hP hS => ?_)
    refine lv_iload hx hb dL_isFelt_75 (lv_at hl 7 rfl) ?_
    refine lv_icmp_ne (tgt := 147) hx hb dL_isFelt_77 (by decide) (fun c_77 => ?_) (fun c_77 => ?_)
    · exact absurd rfl c_77
    · refine lv_aload_n hx hb dL_isFelt_80 rfl (lv_at hl 8 rfl) ?_
      refine lv_iload_n hx hb dL_isFelt_81 rfl (lv_at hl 9 rfl) ?_
      refine okE_I (rx_stateOf hi) (rd_stateOf hi) rfl (runT_V (As := [.int (nI i)]) (rest := []) C (k_X5_stateOf l hfl D cy z o d σ1 τ (rfl : kd 0 = 5) (nI i)) hP hS cw_X5_stateOf (mA2 (i := 80) rfl rfl) (rfl : kd 0 = 5) ⟨Nat.le_of_ble_eq_true rfl, Nat.le_of_ble_eq_true rfl⟩ rfl (Nat.le_of_ble_eq_true rfl) hl.1 (tcc_0 (rx_stateOf hi) ⟨Nat.zero_le _, Nat.zero_le _⟩) dL_isFelt_82) hS (fun H locs hP hS => ?_)
      refine lv_iload_n hx hb dL_isFelt_85 rfl (lv_at hl 10 rfl) ?_
      refine lv_icmp_ne (tgt := 147) hx hb dL_isFelt_86 (by decide) (fun c_86 => ?_) (fun c_86 => ?_)
      · exact absurd (by rw [fk]; rfl) c_86
      · refine lv_aload_n hx hb dL_isFelt_89 rfl (lv_at hl 8 rfl) ?_
        refine lv_iload_n hx hb dL_isFelt_90 rfl (lv_at hl 9 rfl) ?_
        refine okE_I (rx_positionOf hi) (rd_positionOf hi) rfl (runT_V (As := [.int (nI i)]) (rest := []) C (k_X5_positionOf l hfl D cy z o d σ1 τ (rfl : kd 0 = 5) (nI i)) hP hS cw_X5_positionOf (mA2 (i := 64) rfl rfl) (rfl : kd 0 = 5) ⟨Nat.le_of_ble_eq_true rfl, Nat.le_of_ble_eq_true rfl⟩ rfl (Nat.le_of_ble_eq_true rfl) hl.1 (tcc_0 (rx_positionOf hi) ⟨Nat.zero_le _, Nat.zero_le _⟩) dL_isFelt_91) hS (fun H locs hP hS => ?_)
        refine lv_iload hx hb dL_isFelt_94 (lv_at hl 6 rfl) ?_
        refine lv_iload hx hb dL_isFelt_96 (lv_at hl 7 rfl) ?_
        refine lv_iadd hx hb dL_isFelt_98 ?_
        refine lv_icmp_ne (tgt := 147) hx hb dL_isFelt_99 (by decide) (fun c_99 => ?_) (fun c_99 => ?_)
        · exact absurd (by rw [fk]; rfl) c_99
        · refine lv_aload_n hx hb dL_isFelt_102 rfl (lv_at hl 8 rfl) ?_
          refine lv_iload_n hx hb dL_isFelt_103 rfl (lv_at hl 9 rfl) ?_
          refine okE_I (rx_ticksOf hi) (rd_ticksOf hi) rfl (runT_V (As := [.int (nI i)]) (rest := []) C (k_X5_ticksOf l hfl D cy z o d σ1 τ (rfl : kd 0 = 5) (nI i)) hP hS cw_X5_ticksOf (mA2 (i := 68) rfl rfl) (rfl : kd 0 = 5) ⟨Nat.le_of_ble_eq_true rfl, Nat.le_of_ble_eq_true rfl⟩ rfl (Nat.le_of_ble_eq_true rfl) hl.1 (tcc_0 (rx_ticksOf hi) ⟨Nat.zero_le _, Nat.zero_le _⟩) dL_isFelt_104) hS (fun H locs hP hS => ?_)
          refine lv_iload hx hb dL_isFelt_107 (lv_at hl 5 rfl) ?_
          refine lv_iload_n hx hb dL_isFelt_109 rfl (lv_at hl 11 rfl) ?_
          refine lv_iadd hx hb dL_isFelt_110 ?_
          refine lv_icmp_ne (tgt := 147) hx hb dL_isFelt_111 (by decide) (fun c_111 => ?_) (fun c_111 => ?_)
          · exact absurd (by rw [fk]; rfl) c_111
          · refine lv_aload_n hx hb dL_isFelt_114 rfl (lv_at hl 8 rfl) ?_
            refine lv_iload_n hx hb dL_isFelt_115 rfl (lv_at hl 9 rfl) ?_
            refine okE_I (rx_errorsOf hi) (rd_errorsOf hi) rfl (runT_V (As := [.int (nI i)]) (rest := []) C (k_X5_errorsOf l hfl D cy z o d σ1 τ (rfl : kd 0 = 5) (nI i)) hP hS cw_X5_errorsOf (mA2 (i := 84) rfl rfl) (rfl : kd 0 = 5) ⟨Nat.le_of_ble_eq_true rfl, Nat.le_of_ble_eq_true rfl⟩ rfl (Nat.le_of_ble_eq_true rfl) hl.1 (tcc_0 (rx_errorsOf hi) ⟨Nat.zero_le _, Nat.zero_le _⟩) dL_isFelt_116) hS (fun H locs hP hS => ?_)
            refine lv_iload hx hb dL_isFelt_119 (lv_at hl 1 rfl) ?_
            refine lv_iload hx hb dL_isFelt_121 (lv_at hl 2 rfl) ?_
            refine lv_iadd hx hb dL_isFelt_123 ?_
            refine lv_icmp_ne (tgt := 147) hx hb dL_isFelt_124 (by decide) (fun c_124 => ?_) (fun c_124 => ?_)
            · exact absurd (fk8.2 c_44) c_124
            · refine lv_aload_n hx hb dL_isFelt_127 rfl (lv_at hl 8 rfl) ?_
              refine lv_iload_n hx hb dL_isFelt_128 rfl (lv_at hl 9 rfl) ?_
              refine okE_I (rx_distanceOf hi) (rd_distanceOf hi) rfl (runT_V (As := [.int (nI i)]) (rest := []) C (k_X5_distanceOf l hfl D cy z o d σ1 τ (rfl : kd 0 = 5) (nI i)) hP hS cw_X5_distanceOf (mA2 (i := 88) rfl rfl) (rfl : kd 0 = 5) ⟨Nat.le_of_ble_eq_true rfl, Nat.le_of_ble_eq_true rfl⟩ rfl (Nat.le_of_ble_eq_true rfl) hl.1 (tcc_0 (rx_distanceOf hi) ⟨Nat.zero_le _, Nat.zero_le _⟩) dL_isFelt_129) hS (fun H locs hP hS => ?_)
              refine lv_iload hx hb dL_isFelt_132 (lv_at hl 0 rfl) ?_
              refine lv_iload hx hb dL_isFelt_134 (lv_at hl 7 rfl) ?_
              refine thnE_I rfl rfl (run_S (As := [.int (f_X4_stepUnder σ (1 + 1 + 3 * i) (σ 1 4) y)]) (rest := [.int (σ (1 + 1 + 3 * i) 10), .int (σ1 (1 + 1 + 3 * i) 10)]) C (k_L_size l D cy z o d σ1 τ (f_X4_stepUnder σ (1 + 1 + 3 * i) (σ 1 4) y)) hP hS cw_L_size (mA2 (i := 169) rfl rfl) ⟨rfl, rfl⟩ ⟨Nat.le_of_ble_eq_true rfl, Nat.le_of_ble_eq_true rfl⟩ rfl (Nat.le_of_ble_eq_true rfl) hl.1 ⟨Nat.zero_le _, Nat.zero_le _⟩ dL_isFelt_136) hS (fun H locs hP hS => ?_)
              refine lv_iadd hx hb dL_isFelt_139 ?_
              refine lv_icmp_ne (tgt := 147) hx hb dL_isFelt_140 (by decide) (fun c_140 => ?_) (fun c_140 => ?_)
              · exact absurd (by rw [fk, size_ab]; rfl) c_140
              · refine lv_iconst (v := 1) hx hb dL_isFelt_143 (by decide) ?_
                refine lv_goto (tgt := 148) hx hb dL_isFelt_144 (by decide) ?_
                refine lv_istore (lv' := [(12, .int 1), (11, .int (σ (1 + 1 + 3 * i) 10)), (10, .int (σ (1 + 1 + 3 * i) 8)), (9, .int 0), (8, .int (σ (1 + 1 + 3 * i) 3)), (7, .int (σ (1 + 1 + 3 * i + 1) 2)), (6, .int (σ (1 + 1 + 3 * i) 11)), (5, .int (σ (1 + 1 + 3 * i) 2)), (4, .int (f_X4_stepUnder σ (1 + 1 + 3 * i) (σ 1 4) y)), (0, .ref (z + 0)), (1, .int (nI i)), (2, .int y), (3, .int w)]) hx hb dL_isFelt_148 hl (by decide) rfl (fun ls hl => ?_)
                refine lv_iload hx hb dL_isFelt_150 (lv_at hl 0 rfl) ?_
                refine lv_if_eq (tgt := 228) hx hb dL_isFelt_152 (by decide) (fun c_152 => ?_) (fun c_152 => ?_)
                · exact absurd c_152 (by decide)
                · refine lv_aload_n hx hb dL_isFelt_155 rfl (lv_at hl 9 rfl) ?_
                  refine lv_iload_n hx hb dL_isFelt_156 rfl (lv_at hl 10 rfl) ?_
                  refine okE_I (rx_logLength hi) (rd_logLength hi) rfl (runT_V (As := [.int (nI i)]) (rest := []) C (k_X5_logLength l hfl D cy z o d σ1 τ (rfl : kd 0 = 5) (nI i)) hP hS cw_X5_logLength (mA2 (i := 72) rfl rfl) (rfl : kd 0 = 5) ⟨Nat.le_of_ble_eq_true rfl, Nat.le_of_ble_eq_true rfl⟩ rfl (Nat.le_of_ble_eq_true rfl) hl.1 (tcc_0 (rx_logLength hi) ⟨Nat.zero_le _, Nat.zero_le _⟩) dL_isFelt_157) hS (fun H locs hP hS => ?_)
                  refine lv_iload hx hb dL_isFelt_160 (lv_at hl 5 rfl) ?_
                  refine lv_bipush (v := 16) hx hb dL_isFelt_162 (by decide) ?_
                  refine lv_icmp_ge (tgt := 174) hx hb dL_isFelt_164 (by decide) (fun c_164 => ?_) (fun c_164 => ?_)
                  · refine lv_bipush (v := 16) hx hb dL_isFelt_174 (by decide) ?_
                    refine lv_icmp_ne (tgt := 228) hx hb dL_isFelt_176 (by decide) (fun c_176 => ?_) (fun c_176 => ?_)
                    · exact absurd (fl.2 c_164) c_176
                    · refine lv_aload_n hx hb dL_isFelt_179 rfl (lv_at hl 9 rfl) ?_
                      refine lv_iload_n hx hb dL_isFelt_180 rfl (lv_at hl 10 rfl) ?_
                      refine lv_aload_n hx hb dL_isFelt_181 rfl (lv_at hl 9 rfl) ?_
                      refine lv_iload_n hx hb dL_isFelt_182 rfl (lv_at hl 10 rfl) ?_
                      refine okE_I (rx_logLength hi) (rd_logLength hi) rfl (runT_V (As := [.int (nI i)]) (rest := [.int (nI i), .ref (z + 0)]) C (k_X5_logLength l hfl D cy z o d σ1 τ (rfl : kd 0 = 5) (nI i)) hP hS cw_X5_logLength (mA2 (i := 72) rfl rfl) (rfl : kd 0 = 5) ⟨Nat.le_of_ble_eq_true rfl, Nat.le_of_ble_eq_true rfl⟩ rfl (Nat.le_of_ble_eq_true rfl) hl.1 (tcc_0 (rx_logLength hi) ⟨Nat.zero_le _, Nat.zero_le _⟩) dL_isFelt_183) hS (fun H locs hP hS => ?_)
                      refine lv_iconst (v := 1) hx hb dL_isFelt_186 (by decide) ?_
                      refine lv_isub hx hb dL_isFelt_187 ?_
                      refine okE_I fg.1 fg.2 rfl (runT_V (As := [.int (nI i), .int ((σ1 (1 + 1 + 3 * i + 1) 2) - 1)]) (rest := []) C (k_X5_loggedStep l hfl D cy z o d σ1 τ (rfl : kd 0 = 5) (nI i) ((σ1 (1 + 1 + 3 * i + 1) 2) - 1)) hP hS cw_X5_loggedStep (mA2 (i := 172) rfl rfl) (rfl : kd 0 = 5) ⟨Nat.le_of_ble_eq_true rfl, Nat.le_of_ble_eq_true rfl⟩ rfl (Nat.le_of_ble_eq_true rfl) hl.1 (tcc_0 fg.1 ⟨Nat.zero_le _, Nat.zero_le _⟩) dL_isFelt_188) hS (fun H locs hP hS => ?_)
                      refine lv_iload hx hb dL_isFelt_191 (lv_at hl 8 rfl) ?_
                      refine lv_icmp_ne (tgt := 228) hx hb dL_isFelt_193 (by decide) (fun c_193 => ?_) (fun c_193 => ?_)
                      · exact absurd rfl c_193
                      · refine lv_aload_n hx hb dL_isFelt_196 rfl (lv_at hl 9 rfl) ?_
                        refine lv_iload_n hx hb dL_isFelt_197 rfl (lv_at hl 10 rfl) ?_
                        refine okE_I (rx_directionOf hi) (rd_directionOf hi) rfl (runT_V (As := [.int (nI i)]) (rest := []) C (k_X5_directionOf l hfl D cy z o d σ1 τ (rfl : kd 0 = 5) (nI i)) hP hS cw_X5_directionOf (mA2 (i := 76) rfl rfl) (rfl : kd 0 = 5) ⟨Nat.le_of_ble_eq_true rfl, Nat.le_of_ble_eq_true rfl⟩ rfl (Nat.le_of_ble_eq_true rfl) hl.1 (tcc_0 (rx_directionOf hi) ⟨Nat.zero_le _, Nat.zero_le _⟩) dL_isFelt_198) hS (fun H locs hP hS => ?_)
                        refine lv_iload hx hb dL_isFelt_201 (lv_at hl 8 rfl) ?_
                        refine lv_if_le (tgt := 210) hx hb dL_isFelt_203 (by decide) (fun c_203 => ?_) (fun c_203 => ?_)
                        · refine lv_iload hx hb dL_isFelt_210 (lv_at hl 8 rfl) ?_
                          refine lv_if_ge (tgt := 219) hx hb dL_isFelt_212 (by decide) (fun c_212 => ?_) (fun c_212 => ?_)
                          · refine lv_iload hx hb dL_isFelt_219 (lv_at hl 4 rfl) ?_
                            refine lv_icmp_ne (tgt := 228) hx hb dL_isFelt_221 (by decide) (fun c_221 => ?_) (fun c_221 => ?_)
                            · exact absurd (fd.2.2 c_203 c_212) c_221
                            · refine lv_iconst (v := 1) hx hb dL_isFelt_224 (by decide) ?_
                              refine lv_goto (tgt := 229) hx hb dL_isFelt_225 (by decide) ?_
                              refine lv_istore (lv' := [(12, .int 1), (11, .int (σ (1 + 1 + 3 * i) 10)), (10, .int (σ (1 + 1 + 3 * i) 8)), (9, .int 0), (8, .int (σ (1 + 1 + 3 * i) 3)), (7, .int (σ (1 + 1 + 3 * i + 1) 2)), (6, .int (σ (1 + 1 + 3 * i) 11)), (5, .int (σ (1 + 1 + 3 * i) 2)), (4, .int (f_X4_stepUnder σ (1 + 1 + 3 * i) (σ 1 4) y)), (0, .ref (z + 0)), (1, .int (nI i)), (2, .int y), (3, .int w)]) hx hb dL_isFelt_229 hl (by decide) rfl (fun ls hl => ?_)
                              refine lv_iload hx hb dL_isFelt_231 (lv_at hl 0 rfl) ?_
                              refine lv_if_eq (tgt := 280) hx hb dL_isFelt_233 (by decide) (fun c_233 => ?_) (fun c_233 => ?_)
                              · exact absurd c_233 (by decide)
                              · refine lv_iload hx hb dL_isFelt_236 (lv_at hl 3 rfl) ?_
                                refine lv_if_ne (tgt := 256) hx hb dL_isFelt_238 (by decide) (fun c_238 => ?_) (fun c_238 => ?_)
                                · exact absurd rfl c_238
                                · refine lv_iload hx hb dL_isFelt_241 (lv_at hl 8 rfl) ?_
                                  refine lv_iconst (v := (-1)) hx hb dL_isFelt_243 (by decide) ?_
                                  refine lv_icmp_lt (tgt := 280) hx hb dL_isFelt_244 (by decide) (fun c_244 => ?_) (fun c_244 => ?_)
                                  · exact absurd c_244 ((fn c_44).1)
                                  · refine lv_iload hx hb dL_isFelt_247 (lv_at hl 8 rfl) ?_
                                    refine lv_iconst (v := 1) hx hb dL_isFelt_249 (by decide) ?_
                                    refine lv_icmp_gt (tgt := 280) hx hb dL_isFelt_250 (by decide) (fun c_250 => ?_) (fun c_250 => ?_)
                                    · exact absurd c_250 ((fn c_44).2)
                                    · refine lv_goto (tgt := 276) hx hb dL_isFelt_253 (by decide) ?_
                                      refine lv_iconst (v := 1) hx hb dL_isFelt_276 (by decide) ?_
                                      refine lv_goto (tgt := 281) hx hb dL_isFelt_277 (by decide) ?_
                                      exact ret_I C hP hS nar_z1 rfl rfl rfl rfl dL_isFelt_281
                          · refine lv_iconst (v := (-1)) hx hb dL_isFelt_215 (by decide) ?_
                            refine lv_goto (tgt := 221) hx hb dL_isFelt_216 (by decide) ?_
                            refine lv_icmp_ne (tgt := 228) hx hb dL_isFelt_221 (by decide) (fun c_221 => ?_) (fun c_221 => ?_)
                            · exact absurd (fd.2.1 c_203 c_212) c_221
                            · refine lv_iconst (v := 1) hx hb dL_isFelt_224 (by decide) ?_
                              refine lv_goto (tgt := 229) hx hb dL_isFelt_225 (by decide) ?_
                              refine lv_istore (lv' := [(12, .int 1), (11, .int (σ (1 + 1 + 3 * i) 10)), (10, .int (σ (1 + 1 + 3 * i) 8)), (9, .int 0), (8, .int (σ (1 + 1 + 3 * i) 3)), (7, .int (σ (1 + 1 + 3 * i + 1) 2)), (6, .int (σ (1 + 1 + 3 * i) 11)), (5, .int (σ (1 + 1 + 3 * i) 2)), (4, .int (f_X4_stepUnder σ (1 + 1 + 3 * i) (σ 1 4) y)), (0, .ref (z + 0)), (1, .int (nI i)), (2, .int y), (3, .int w)]) hx hb dL_isFelt_229 hl (by decide) rfl (fun ls hl => ?_)
                              refine lv_iload hx hb dL_isFelt_231 (lv_at hl 0 rfl) ?_
                              refine lv_if_eq (tgt := 280) hx hb dL_isFelt_233 (by decide) (fun c_233 => ?_) (fun c_233 => ?_)
                              · exact absurd c_233 (by decide)
                              · refine lv_iload hx hb dL_isFelt_236 (lv_at hl 3 rfl) ?_
                                refine lv_if_ne (tgt := 256) hx hb dL_isFelt_238 (by decide) (fun c_238 => ?_) (fun c_238 => ?_)
                                · exact absurd rfl c_238
                                · refine lv_iload hx hb dL_isFelt_241 (lv_at hl 8 rfl) ?_
                                  refine lv_iconst (v := (-1)) hx hb dL_isFelt_243 (by decide) ?_
                                  refine lv_icmp_lt (tgt := 280) hx hb dL_isFelt_244 (by decide) (fun c_244 => ?_) (fun c_244 => ?_)
                                  · exact absurd c_244 ((fn c_44).1)
                                  · refine lv_iload hx hb dL_isFelt_247 (lv_at hl 8 rfl) ?_
                                    refine lv_iconst (v := 1) hx hb dL_isFelt_249 (by decide) ?_
                                    refine lv_icmp_gt (tgt := 280) hx hb dL_isFelt_250 (by decide) (fun c_250 => ?_) (fun c_250 => ?_)
                                    · exact absurd c_250 ((fn c_44).2)
                                    · refine lv_goto (tgt := 276) hx hb dL_isFelt_253 (by decide) ?_
                                      refine lv_iconst (v := 1) hx hb dL_isFelt_276 (by decide) ?_
                                      refine lv_goto (tgt := 281) hx hb dL_isFelt_277 (by decide) ?_
                                      exact ret_I C hP hS nar_z1 rfl rfl rfl rfl dL_isFelt_281
                        · refine lv_iconst (v := 1) hx hb dL_isFelt_206 (by decide) ?_
                          refine lv_goto (tgt := 221) hx hb dL_isFelt_207 (by decide) ?_
                          refine lv_icmp_ne (tgt := 228) hx hb dL_isFelt_221 (by decide) (fun c_221 => ?_) (fun c_221 => ?_)
                          · exact absurd (fd.1 c_203) c_221
                          · refine lv_iconst (v := 1) hx hb dL_isFelt_224 (by decide) ?_
                            refine lv_goto (tgt := 229) hx hb dL_isFelt_225 (by decide) ?_
                            refine lv_istore (lv' := [(12, .int 1), (11, .int (σ (1 + 1 + 3 * i) 10)), (10, .int (σ (1 + 1 + 3 * i) 8)), (9, .int 0), (8, .int (σ (1 + 1 + 3 * i) 3)), (7, .int (σ (1 + 1 + 3 * i + 1) 2)), (6, .int (σ (1 + 1 + 3 * i) 11)), (5, .int (σ (1 + 1 + 3 * i) 2)), (4, .int (f_X4_stepUnder σ (1 + 1 + 3 * i) (σ 1 4) y)), (0, .ref (z + 0)), (1, .int (nI i)), (2, .int y), (3, .int w)]) hx hb dL_isFelt_229 hl (by decide) rfl (fun ls hl => ?_)
                            refine lv_iload hx hb dL_isFelt_231 (lv_at hl 0 rfl) ?_
                            refine lv_if_eq (tgt := 280) hx hb dL_isFelt_233 (by decide) (fun c_233 => ?_) (fun c_233 => ?_)
                            · exact absurd c_233 (by decide)
                            · refine lv_iload hx hb dL_isFelt_236 (lv_at hl 3 rfl) ?_
                              refine lv_if_ne (tgt := 256) hx hb dL_isFelt_238 (by decide) (fun c_238 => ?_) (fun c_238 => ?_)
                              · exact absurd rfl c_238
                              · refine lv_iload hx hb dL_isFelt_241 (lv_at hl 8 rfl) ?_
                                refine lv_iconst (v := (-1)) hx hb dL_isFelt_243 (by decide) ?_
                                refine lv_icmp_lt (tgt := 280) hx hb dL_isFelt_244 (by decide) (fun c_244 => ?_) (fun c_244 => ?_)
                                · exact absurd c_244 ((fn c_44).1)
                                · refine lv_iload hx hb dL_isFelt_247 (lv_at hl 8 rfl) ?_
                                  refine lv_iconst (v := 1) hx hb dL_isFelt_249 (by decide) ?_
                                  refine lv_icmp_gt (tgt := 280) hx hb dL_isFelt_250 (by decide) (fun c_250 => ?_) (fun c_250 => ?_)
                                  · exact absurd c_250 ((fn c_44).2)
                                  · refine lv_goto (tgt := 276) hx hb dL_isFelt_253 (by decide) ?_
                                    refine lv_iconst (v := 1) hx hb dL_isFelt_276 (by decide) ?_
                                    refine lv_goto (tgt := 281) hx hb dL_isFelt_277 (by decide) ?_
                                    exact ret_I C hP hS nar_z1 rfl rfl rfl rfl dL_isFelt_281
                  · refine lv_iload hx hb dL_isFelt_167 (lv_at hl 5 rfl) ?_
                    refine lv_iconst (v := 1) hx hb dL_isFelt_169 (by decide) ?_
                    refine lv_iadd hx hb dL_isFelt_170 ?_
                    refine lv_goto (tgt := 176) hx hb dL_isFelt_171 (by decide) ?_
                    refine lv_icmp_ne (tgt := 228) hx hb dL_isFelt_176 (by decide) (fun c_176 => ?_) (fun c_176 => ?_)
                    · exact absurd (fl.1 c_164) c_176
                    · refine lv_aload_n hx hb dL_isFelt_179 rfl (lv_at hl 9 rfl) ?_
                      refine lv_iload_n hx hb dL_isFelt_180 rfl (lv_at hl 10 rfl) ?_
                      refine lv_aload_n hx hb dL_isFelt_181 rfl (lv_at hl 9 rfl) ?_
                      refine lv_iload_n hx hb dL_isFelt_182 rfl (lv_at hl 10 rfl) ?_
                      refine okE_I (rx_logLength hi) (rd_logLength hi) rfl (runT_V (As := [.int (nI i)]) (rest := [.int (nI i), .ref (z + 0)]) C (k_X5_logLength l hfl D cy z o d σ1 τ (rfl : kd 0 = 5) (nI i)) hP hS cw_X5_logLength (mA2 (i := 72) rfl rfl) (rfl : kd 0 = 5) ⟨Nat.le_of_ble_eq_true rfl, Nat.le_of_ble_eq_true rfl⟩ rfl (Nat.le_of_ble_eq_true rfl) hl.1 (tcc_0 (rx_logLength hi) ⟨Nat.zero_le _, Nat.zero_le _⟩) dL_isFelt_183) hS (fun H locs hP hS => ?_)
                      refine lv_iconst (v := 1) hx hb dL_isFelt_186 (by decide) ?_
                      refine lv_isub hx hb dL_isFelt_187 ?_
                      refine okE_I fg.1 fg.2 rfl (runT_V (As := [.int (nI i), .int ((σ1 (1 + 1 + 3 * i + 1) 2) - 1)]) (rest := []) C (k_X5_loggedStep l hfl D cy z o d σ1 τ (rfl : kd 0 = 5) (nI i) ((σ1 (1 + 1 + 3 * i + 1) 2) - 1)) hP hS cw_X5_loggedStep (mA2 (i := 172) rfl rfl) (rfl : kd 0 = 5) ⟨Nat.le_of_ble_eq_true rfl, Nat.le_of_ble_eq_true rfl⟩ rfl (Nat.le_of_ble_eq_true rfl) hl.1 (tcc_0 fg.1 ⟨Nat.zero_le _, Nat.zero_le _⟩) dL_isFelt_188) hS (fun H locs hP hS => ?_)
                      refine lv_iload hx hb dL_isFelt_191 (lv_at hl 8 rfl) ?_
                      refine lv_icmp_ne (tgt := 228) hx hb dL_isFelt_193 (by decide) (fun c_193 => ?_) (fun c_193 => ?_)
                      · exact absurd rfl c_193
                      · refine lv_aload_n hx hb dL_isFelt_196 rfl (lv_at hl 9 rfl) ?_
                        refine lv_iload_n hx hb dL_isFelt_197 rfl (lv_at hl 10 rfl) ?_
                        refine okE_I (rx_directionOf hi) (rd_directionOf hi) rfl (runT_V (As := [.int (nI i)]) (rest := []) C (k_X5_directionOf l hfl D cy z o d σ1 τ (rfl : kd 0 = 5) (nI i)) hP hS cw_X5_directionOf (mA2 (i := 76) rfl rfl) (rfl : kd 0 = 5) ⟨Nat.le_of_ble_eq_true rfl, Nat.le_of_ble_eq_true rfl⟩ rfl (Nat.le_of_ble_eq_true rfl) hl.1 (tcc_0 (rx_directionOf hi) ⟨Nat.zero_le _, Nat.zero_le _⟩) dL_isFelt_198) hS (fun H locs hP hS => ?_)
                        refine lv_iload hx hb dL_isFelt_201 (lv_at hl 8 rfl) ?_
                        refine lv_if_le (tgt := 210) hx hb dL_isFelt_203 (by decide) (fun c_203 => ?_) (fun c_203 => ?_)
                        · refine lv_iload hx hb dL_isFelt_210 (lv_at hl 8 rfl) ?_
                          refine lv_if_ge (tgt := 219) hx hb dL_isFelt_212 (by decide) (fun c_212 => ?_) (fun c_212 => ?_)
                          · refine lv_iload hx hb dL_isFelt_219 (lv_at hl 4 rfl) ?_
                            refine lv_icmp_ne (tgt := 228) hx hb dL_isFelt_221 (by decide) (fun c_221 => ?_) (fun c_221 => ?_)
                            · exact absurd (fd.2.2 c_203 c_212) c_221
                            · refine lv_iconst (v := 1) hx hb dL_isFelt_224 (by decide) ?_
                              refine lv_goto (tgt := 229) hx hb dL_isFelt_225 (by decide) ?_
                              refine lv_istore (lv' := [(12, .int 1), (11, .int (σ (1 + 1 + 3 * i) 10)), (10, .int (σ (1 + 1 + 3 * i) 8)), (9, .int 0), (8, .int (σ (1 + 1 + 3 * i) 3)), (7, .int (σ (1 + 1 + 3 * i + 1) 2)), (6, .int (σ (1 + 1 + 3 * i) 11)), (5, .int (σ (1 + 1 + 3 * i) 2)), (4, .int (f_X4_stepUnder σ (1 + 1 + 3 * i) (σ 1 4) y)), (0, .ref (z + 0)), (1, .int (nI i)), (2, .int y), (3, .int w)]) hx hb dL_isFelt_229 hl (by decide) rfl (fun ls hl => ?_)
                              refine lv_iload hx hb dL_isFelt_231 (lv_at hl 0 rfl) ?_
                              refine lv_if_eq (tgt := 280) hx hb dL_isFelt_233 (by decide) (fun c_233 => ?_) (fun c_233 => ?_)
                              · exact absurd c_233 (by decide)
                              · refine lv_iload hx hb dL_isFelt_236 (lv_at hl 3 rfl) ?_
                                refine lv_if_ne (tgt := 256) hx hb dL_isFelt_238 (by decide) (fun c_238 => ?_) (fun c_238 => ?_)
                                · exact absurd rfl c_238
                                · refine lv_iload hx hb dL_isFelt_241 (lv_at hl 8 rfl) ?_
                                  refine lv_iconst (v := (-1)) hx hb dL_isFelt_243 (by decide) ?_
                                  refine lv_icmp_lt (tgt := 280) hx hb dL_isFelt_244 (by decide) (fun c_244 => ?_) (fun c_244 => ?_)
                                  · exact absurd c_244 ((fn c_44).1)
                                  · refine lv_iload hx hb dL_isFelt_247 (lv_at hl 8 rfl) ?_
                                    refine lv_iconst (v := 1) hx hb dL_isFelt_249 (by decide) ?_
                                    refine lv_icmp_gt (tgt := 280) hx hb dL_isFelt_250 (by decide) (fun c_250 => ?_) (fun c_250 => ?_)
                                    · exact absurd c_250 ((fn c_44).2)
                                    · refine lv_goto (tgt := 276) hx hb dL_isFelt_253 (by decide) ?_
                                      refine lv_iconst (v := 1) hx hb dL_isFelt_276 (by decide) ?_
                                      refine lv_goto (tgt := 281) hx hb dL_isFelt_277 (by decide) ?_
                                      exact ret_I C hP hS nar_z1 rfl rfl rfl rfl dL_isFelt_281
                          · refine lv_iconst (v := (-1)) hx hb dL_isFelt_215 (by decide) ?_
                            refine lv_goto (tgt := 221) hx hb dL_isFelt_216 (by decide) ?_
                            refine lv_icmp_ne (tgt := 228) hx hb dL_isFelt_221 (by decide) (fun c_221 => ?_) (fun c_221 => ?_)
                            · exact absurd (fd.2.1 c_203 c_212) c_221
                            · refine lv_iconst (v := 1) hx hb dL_isFelt_224 (by decide) ?_
                              refine lv_goto (tgt := 229) hx hb dL_isFelt_225 (by decide) ?_
                              refine lv_istore (lv' := [(12, .int 1), (11, .int (σ (1 + 1 + 3 * i) 10)), (10, .int (σ (1 + 1 + 3 * i) 8)), (9, .int 0), (8, .int (σ (1 + 1 + 3 * i) 3)), (7, .int (σ (1 + 1 + 3 * i + 1) 2)), (6, .int (σ (1 + 1 + 3 * i) 11)), (5, .int (σ (1 + 1 + 3 * i) 2)), (4, .int (f_X4_stepUnder σ (1 + 1 + 3 * i) (σ 1 4) y)), (0, .ref (z + 0)), (1, .int (nI i)), (2, .int y), (3, .int w)]) hx hb dL_isFelt_229 hl (by decide) rfl (fun ls hl => ?_)
                              refine lv_iload hx hb dL_isFelt_231 (lv_at hl 0 rfl) ?_
                              refine lv_if_eq (tgt := 280) hx hb dL_isFelt_233 (by decide) (fun c_233 => ?_) (fun c_233 => ?_)
                              · exact absurd c_233 (by decide)
                              · refine lv_iload hx hb dL_isFelt_236 (lv_at hl 3 rfl) ?_
                                refine lv_if_ne (tgt := 256) hx hb dL_isFelt_238 (by decide) (fun c_238 => ?_) (fun c_238 => ?_)
                                · exact absurd rfl c_238
                                · refine lv_iload hx hb dL_isFelt_241 (lv_at hl 8 rfl) ?_
                                  refine lv_iconst (v := (-1)) hx hb dL_isFelt_243 (by decide) ?_
                                  refine lv_icmp_lt (tgt := 280) hx hb dL_isFelt_244 (by decide) (fun c_244 => ?_) (fun c_244 => ?_)
                                  · exact absurd c_244 ((fn c_44).1)
                                  · refine lv_iload hx hb dL_isFelt_247 (lv_at hl 8 rfl) ?_
                                    refine lv_iconst (v := 1) hx hb dL_isFelt_249 (by decide) ?_
                                    refine lv_icmp_gt (tgt := 280) hx hb dL_isFelt_250 (by decide) (fun c_250 => ?_) (fun c_250 => ?_)
                                    · exact absurd c_250 ((fn c_44).2)
                                    · refine lv_goto (tgt := 276) hx hb dL_isFelt_253 (by decide) ?_
                                      refine lv_iconst (v := 1) hx hb dL_isFelt_276 (by decide) ?_
                                      refine lv_goto (tgt := 281) hx hb dL_isFelt_277 (by decide) ?_
                                      exact ret_I C hP hS nar_z1 rfl rfl rfl rfl dL_isFelt_281
                        · refine lv_iconst (v := 1) hx hb dL_isFelt_206 (by decide) ?_
                          refine lv_goto (tgt := 221) hx hb dL_isFelt_207 (by decide) ?_
                          refine lv_icmp_ne (tgt := 228) hx hb dL_isFelt_221 (by decide) (fun c_221 => ?_) (fun c_221 => ?_)
                          · exact absurd (fd.1 c_203) c_221
                          · refine lv_iconst (v := 1) hx hb dL_isFelt_224 (by decide) ?_
                            refine lv_goto (tgt := 229) hx hb dL_isFelt_225 (by decide) ?_
                            refine lv_istore (lv' := [(12, .int 1), (11, .int (σ (1 + 1 + 3 * i) 10)), (10, .int (σ (1 + 1 + 3 * i) 8)), (9, .int 0), (8, .int (σ (1 + 1 + 3 * i) 3)), (7, .int (σ (1 + 1 + 3 * i + 1) 2)), (6, .int (σ (1 + 1 + 3 * i) 11)), (5, .int (σ (1 + 1 + 3 * i) 2)), (4, .int (f_X4_stepUnder σ (1 + 1 + 3 * i) (σ 1 4) y)), (0, .ref (z + 0)), (1, .int (nI i)), (2, .int y), (3, .int w)]) hx hb dL_isFelt_229 hl (by decide) rfl (fun ls hl => ?_)
                            refine lv_iload hx hb dL_isFelt_231 (lv_at hl 0 rfl) ?_
                            refine lv_if_eq (tgt := 280) hx hb dL_isFelt_233 (by decide) (fun c_233 => ?_) (fun c_233 => ?_)
                            · exact absurd c_233 (by decide)
                            · refine lv_iload hx hb dL_isFelt_236 (lv_at hl 3 rfl) ?_
                              refine lv_if_ne (tgt := 256) hx hb dL_isFelt_238 (by decide) (fun c_238 => ?_) (fun c_238 => ?_)
                              · exact absurd rfl c_238
                              · refine lv_iload hx hb dL_isFelt_241 (lv_at hl 8 rfl) ?_
                                refine lv_iconst (v := (-1)) hx hb dL_isFelt_243 (by decide) ?_
                                refine lv_icmp_lt (tgt := 280) hx hb dL_isFelt_244 (by decide) (fun c_244 => ?_) (fun c_244 => ?_)
                                · exact absurd c_244 ((fn c_44).1)
                                · refine lv_iload hx hb dL_isFelt_247 (lv_at hl 8 rfl) ?_
                                  refine lv_iconst (v := 1) hx hb dL_isFelt_249 (by decide) ?_
                                  refine lv_icmp_gt (tgt := 280) hx hb dL_isFelt_250 (by decide) (fun c_250 => ?_) (fun c_250 => ?_)
                                  · exact absurd c_250 ((fn c_44).2)
                                  · refine lv_goto (tgt := 276) hx hb dL_isFelt_253 (by decide) ?_
                                    refine lv_iconst (v := 1) hx hb dL_isFelt_276 (by decide) ?_
                                    refine lv_goto (tgt := 281) hx hb dL_isFelt_277 (by decide) ?_
                                    exact ret_I C hP hS nar_z1 rfl rfl rfl rfl dL_isFelt_281
  · refine lv_iconst (v := 1) hx hb dL_isFelt_47 (by decide) ?_
    refine lv_goto (tgt := 52) hx hb dL_isFelt_48 (by decide) ?_
    refine lv_istore (lv' := [(9, .int 1), (8, .int (σ (1 + 1 + 3 * i) 3)), (7, .int (σ (1 + 1 + 3 * i + 1) 2)), (6, .int (σ (1 + 1 + 3 * i) 11)), (5, .int (σ (1 + 1 + 3 * i) 2)), (4, .int (f_X4_stepUnder σ (1 + 1 + 3 * i) (σ 1 4) y)), (0, .ref (z + 0)), (1, .int (nI i)), (2, .int y), (3, .int w)]) hx hb dL_isFelt_52 hl (by decide) rfl (fun ls hl => ?_)
    refine lv_aload_n hx hb dL_isFelt_54 rfl (lv_at hl 6 rfl) ?_
    refine lv_iload_n hx hb dL_isFelt_55 rfl (lv_at hl 7 rfl) ?_
    refine okE_I (rx_errorsOf hi) (rd_errorsOf hi) rfl (runT_V (As := [.int (nI i)]) (rest := []) C (k_X5_errorsOf l hfl D cy z o d σ τ (rfl : kd 0 = 5) (nI i)) hP hS cw_X5_errorsOf (mA2 (i := 84) rfl rfl) (rfl : kd 0 = 5) ⟨Nat.le_of_ble_eq_true rfl, Nat.le_of_ble_eq_true rfl⟩ rfl (Nat.le_of_ble_eq_true rfl) hl.1 (tcc_0 (rx_errorsOf hi) ⟨Nat.zero_le _, Nat.zero_le _⟩) dL_isFelt_56) hS (fun H locs hP hS => ?_)
    refine lv_istore (lv' := [(10, .int (σ (1 + 1 + 3 * i) 8)), (9, .int 1), (8, .int (σ (1 + 1 + 3 * i) 3)), (7, .int (σ (1 + 1 + 3 * i + 1) 2)), (6, .int (σ (1 + 1 + 3 * i) 11)), (5, .int (σ (1 + 1 + 3 * i) 2)), (4, .int (f_X4_stepUnder σ (1 + 1 + 3 * i) (σ 1 4) y)), (0, .ref (z + 0)), (1, .int (nI i)), (2, .int y), (3, .int w)]) hx hb dL_isFelt_59 hl (by decide) rfl (fun ls hl => ?_)
    refine lv_aload_n hx hb dL_isFelt_61 rfl (lv_at hl 7 rfl) ?_
    refine lv_iload_n hx hb dL_isFelt_62 rfl (lv_at hl 8 rfl) ?_
    refine okE_I (rx_distanceOf hi) (rd_distanceOf hi) rfl (runT_V (As := [.int (nI i)]) (rest := []) C (k_X5_distanceOf l hfl D cy z o d σ τ (rfl : kd 0 = 5) (nI i)) hP hS cw_X5_distanceOf (mA2 (i := 88) rfl rfl) (rfl : kd 0 = 5) ⟨Nat.le_of_ble_eq_true rfl, Nat.le_of_ble_eq_true rfl⟩ rfl (Nat.le_of_ble_eq_true rfl) hl.1 (tcc_0 (rx_distanceOf hi) ⟨Nat.zero_le _, Nat.zero_le _⟩) dL_isFelt_63) hS (fun H locs hP hS => ?_)
    refine lv_istore (lv' := [(11, .int (σ (1 + 1 + 3 * i) 10)), (10, .int (σ (1 + 1 + 3 * i) 8)), (9, .int 1), (8, .int (σ (1 + 1 + 3 * i) 3)), (7, .int (σ (1 + 1 + 3 * i + 1) 2)), (6, .int (σ (1 + 1 + 3 * i) 11)), (5, .int (σ (1 + 1 + 3 * i) 2)), (4, .int (f_X4_stepUnder σ (1 + 1 + 3 * i) (σ 1 4) y)), (0, .ref (z + 0)), (1, .int (nI i)), (2, .int y), (3, .int w)]) hx hb dL_isFelt_66 hl (by decide) rfl (fun ls hl => ?_)
    refine lv_aload_n hx hb dL_isFelt_68 rfl (lv_at hl 8 rfl) ?_
    refine lv_iload_n hx hb dL_isFelt_69 rfl (lv_at hl 9 rfl) ?_
    refine lv_iload_n hx hb dL_isFelt_70 rfl (lv_at hl 10 rfl) ?_
    refine lv_iload_n hx hb dL_isFelt_71 rfl (lv_at hl 11 rfl) ?_
    refine okE_I fx ff hs1 (runT_V (As := [.int (nI i), .int y, .int w]) (rest := []) C (k_X5_feel l hfl D cy z o d σ τ (rfl : kd 0 = 5) (nI i) y w) hP hS cw_X5_feel (mA2 (i := 92) rfl rfl) (rfl : kd 0 = 5) ⟨Nat.le_of_ble_eq_true rfl, Nat.le_of_ble_eq_true rfl⟩ rfl (Nat.le_of_ble_eq_true rfl) hl.1 (tcc_0 fx ⟨Nat.zero_le _, Nat.zero_le _⟩) dL_isFelt_72) hS (fun H locs hP hS => ?_)
    refine lv_iload hx hb dL_isFelt_75 (lv_at hl 7 rfl) ?_
    refine lv_icmp_ne (tgt := 147) hx hb dL_isFelt_77 (by decide) (fun c_77 => ?_) (fun c_77 => ?_)
    · exact absurd rfl c_77
    · refine lv_aload_n hx hb dL_isFelt_80 rfl (lv_at hl 8 rfl) ?_
      refine lv_iload_n hx hb dL_isFelt_81 rfl (lv_at hl 9 rfl) ?_
      refine okE_I (rx_stateOf hi) (rd_stateOf hi) rfl (runT_V (As := [.int (nI i)]) (rest := []) C (k_X5_stateOf l hfl D cy z o d σ1 τ (rfl : kd 0 = 5) (nI i)) hP hS cw_X5_stateOf (mA2 (i := 80) rfl rfl) (rfl : kd 0 = 5) ⟨Nat.le_of_ble_eq_true rfl, Nat.le_of_ble_eq_true rfl⟩ rfl (Nat.le_of_ble_eq_true rfl) hl.1 (tcc_0 (rx_stateOf hi) ⟨Nat.zero_le _, Nat.zero_le _⟩) dL_isFelt_82) hS (fun H locs hP hS => ?_)
      refine lv_iload_n hx hb dL_isFelt_85 rfl (lv_at hl 10 rfl) ?_
      refine lv_icmp_ne (tgt := 147) hx hb dL_isFelt_86 (by decide) (fun c_86 => ?_) (fun c_86 => ?_)
      · exact absurd (by rw [fk]; rfl) c_86
      · refine lv_aload_n hx hb dL_isFelt_89 rfl (lv_at hl 8 rfl) ?_
        refine lv_iload_n hx hb dL_isFelt_90 rfl (lv_at hl 9 rfl) ?_
        refine okE_I (rx_positionOf hi) (rd_positionOf hi) rfl (runT_V (As := [.int (nI i)]) (rest := []) C (k_X5_positionOf l hfl D cy z o d σ1 τ (rfl : kd 0 = 5) (nI i)) hP hS cw_X5_positionOf (mA2 (i := 64) rfl rfl) (rfl : kd 0 = 5) ⟨Nat.le_of_ble_eq_true rfl, Nat.le_of_ble_eq_true rfl⟩ rfl (Nat.le_of_ble_eq_true rfl) hl.1 (tcc_0 (rx_positionOf hi) ⟨Nat.zero_le _, Nat.zero_le _⟩) dL_isFelt_91) hS (fun H locs hP hS => ?_)
        refine lv_iload hx hb dL_isFelt_94 (lv_at hl 6 rfl) ?_
        refine lv_iload hx hb dL_isFelt_96 (lv_at hl 7 rfl) ?_
        refine lv_iadd hx hb dL_isFelt_98 ?_
        refine lv_icmp_ne (tgt := 147) hx hb dL_isFelt_99 (by decide) (fun c_99 => ?_) (fun c_99 => ?_)
        · exact absurd (by rw [fk]; rfl) c_99
        · refine lv_aload_n hx hb dL_isFelt_102 rfl (lv_at hl 8 rfl) ?_
          refine lv_iload_n hx hb dL_isFelt_103 rfl (lv_at hl 9 rfl) ?_
          refine okE_I (rx_ticksOf hi) (rd_ticksOf hi) rfl (runT_V (As := [.int (nI i)]) (rest := []) C (k_X5_ticksOf l hfl D cy z o d σ1 τ (rfl : kd 0 = 5) (nI i)) hP hS cw_X5_ticksOf (mA2 (i := 68) rfl rfl) (rfl : kd 0 = 5) ⟨Nat.le_of_ble_eq_true rfl, Nat.le_of_ble_eq_true rfl⟩ rfl (Nat.le_of_ble_eq_true rfl) hl.1 (tcc_0 (rx_ticksOf hi) ⟨Nat.zero_le _, Nat.zero_le _⟩) dL_isFelt_104) hS (fun H locs hP hS => ?_)
          refine lv_iload hx hb dL_isFelt_107 (lv_at hl 5 rfl) ?_
          refine lv_iload_n hx hb dL_isFelt_109 rfl (lv_at hl 11 rfl) ?_
          refine lv_iadd hx hb dL_isFelt_110 ?_
          refine lv_icmp_ne (tgt := 147) hx hb dL_isFelt_111 (by decide) (fun c_111 => ?_) (fun c_111 => ?_)
          · exact absurd (by rw [fk]; rfl) c_111
          · refine lv_aload_n hx hb dL_isFelt_114 rfl (lv_at hl 8 rfl) ?_
            refine lv_iload_n hx hb dL_isFelt_115 rfl (lv_at hl 9 rfl) ?_
            refine okE_I (rx_errorsOf hi) (rd_errorsOf hi) rfl (runT_V (As := [.int (nI i)]) (rest := []) C (k_X5_errorsOf l hfl D cy z o d σ1 τ (rfl : kd 0 = 5) (nI i)) hP hS cw_X5_errorsOf (mA2 (i := 84) rfl rfl) (rfl : kd 0 = 5) ⟨Nat.le_of_ble_eq_true rfl, Nat.le_of_ble_eq_true rfl⟩ rfl (Nat.le_of_ble_eq_true rfl) hl.1 (tcc_0 (rx_errorsOf hi) ⟨Nat.zero_le _, Nat.zero_le _⟩) dL_isFelt_116) hS (fun H locs hP hS => ?_)
            refine lv_iload hx hb dL_isFelt_119 (lv_at hl 1 rfl) ?_
            refine lv_iload hx hb dL_isFelt_121 (lv_at hl 2 rfl) ?_
            refine lv_iadd hx hb dL_isFelt_123 ?_
            refine lv_icmp_ne (tgt := 147) hx hb dL_isFelt_124 (by decide) (fun c_124 => ?_) (fun c_124 => ?_)
            · exact absurd (fk8.1 c_44) c_124
            · refine lv_aload_n hx hb dL_isFelt_127 rfl (lv_at hl 8 rfl) ?_
              refine lv_iload_n hx hb dL_isFelt_128 rfl (lv_at hl 9 rfl) ?_
              refine okE_I (rx_distanceOf hi) (rd_distanceOf hi) rfl (runT_V (As := [.int (nI i)]) (rest := []) C (k_X5_distanceOf l hfl D cy z o d σ1 τ (rfl : kd 0 = 5) (nI i)) hP hS cw_X5_distanceOf (mA2 (i := 88) rfl rfl) (rfl : kd 0 = 5) ⟨Nat.le_of_ble_eq_true rfl, Nat.le_of_ble_eq_true rfl⟩ rfl (Nat.le_of_ble_eq_true rfl) hl.1 (tcc_0 (rx_distanceOf hi) ⟨Nat.zero_le _, Nat.zero_le _⟩) dL_isFelt_129) hS (fun H locs hP hS => ?_)
              refine lv_iload hx hb dL_isFelt_132 (lv_at hl 0 rfl) ?_
              refine lv_iload hx hb dL_isFelt_134 (lv_at hl 7 rfl) ?_
              refine thnE_I rfl rfl (run_S (As := [.int (f_X4_stepUnder σ (1 + 1 + 3 * i) (σ 1 4) y)]) (rest := [.int (σ (1 + 1 + 3 * i) 10), .int (σ1 (1 + 1 + 3 * i) 10)]) C (k_L_size l D cy z o d σ1 τ (f_X4_stepUnder σ (1 + 1 + 3 * i) (σ 1 4) y)) hP hS cw_L_size (mA2 (i := 169) rfl rfl) ⟨rfl, rfl⟩ ⟨Nat.le_of_ble_eq_true rfl, Nat.le_of_ble_eq_true rfl⟩ rfl (Nat.le_of_ble_eq_true rfl) hl.1 ⟨Nat.zero_le _, Nat.zero_le _⟩ dL_isFelt_136) hS (fun H locs hP hS => ?_)
              refine lv_iadd hx hb dL_isFelt_139 ?_
              refine lv_icmp_ne (tgt := 147) hx hb dL_isFelt_140 (by decide) (fun c_140 => ?_) (fun c_140 => ?_)
              · exact absurd (by rw [fk, size_ab]; rfl) c_140
              · refine lv_iconst (v := 1) hx hb dL_isFelt_143 (by decide) ?_
                refine lv_goto (tgt := 148) hx hb dL_isFelt_144 (by decide) ?_
                refine lv_istore (lv' := [(12, .int 1), (11, .int (σ (1 + 1 + 3 * i) 10)), (10, .int (σ (1 + 1 + 3 * i) 8)), (9, .int 1), (8, .int (σ (1 + 1 + 3 * i) 3)), (7, .int (σ (1 + 1 + 3 * i + 1) 2)), (6, .int (σ (1 + 1 + 3 * i) 11)), (5, .int (σ (1 + 1 + 3 * i) 2)), (4, .int (f_X4_stepUnder σ (1 + 1 + 3 * i) (σ 1 4) y)), (0, .ref (z + 0)), (1, .int (nI i)), (2, .int y), (3, .int w)]) hx hb dL_isFelt_148 hl (by decide) rfl (fun ls hl => ?_)
                refine lv_iload hx hb dL_isFelt_150 (lv_at hl 0 rfl) ?_
                refine lv_if_eq (tgt := 228) hx hb dL_isFelt_152 (by decide) (fun c_152 => ?_) (fun c_152 => ?_)
                · exact absurd c_152 (by decide)
                · refine lv_aload_n hx hb dL_isFelt_155 rfl (lv_at hl 9 rfl) ?_
                  refine lv_iload_n hx hb dL_isFelt_156 rfl (lv_at hl 10 rfl) ?_
                  refine okE_I (rx_logLength hi) (rd_logLength hi) rfl (runT_V (As := [.int (nI i)]) (rest := []) C (k_X5_logLength l hfl D cy z o d σ1 τ (rfl : kd 0 = 5) (nI i)) hP hS cw_X5_logLength (mA2 (i := 72) rfl rfl) (rfl : kd 0 = 5) ⟨Nat.le_of_ble_eq_true rfl, Nat.le_of_ble_eq_true rfl⟩ rfl (Nat.le_of_ble_eq_true rfl) hl.1 (tcc_0 (rx_logLength hi) ⟨Nat.zero_le _, Nat.zero_le _⟩) dL_isFelt_157) hS (fun H locs hP hS => ?_)
                  refine lv_iload hx hb dL_isFelt_160 (lv_at hl 5 rfl) ?_
                  refine lv_bipush (v := 16) hx hb dL_isFelt_162 (by decide) ?_
                  refine lv_icmp_ge (tgt := 174) hx hb dL_isFelt_164 (by decide) (fun c_164 => ?_) (fun c_164 => ?_)
                  · refine lv_bipush (v := 16) hx hb dL_isFelt_174 (by decide) ?_
                    refine lv_icmp_ne (tgt := 228) hx hb dL_isFelt_176 (by decide) (fun c_176 => ?_) (fun c_176 => ?_)
                    · exact absurd (fl.2 c_164) c_176
                    · refine lv_aload_n hx hb dL_isFelt_179 rfl (lv_at hl 9 rfl) ?_
                      refine lv_iload_n hx hb dL_isFelt_180 rfl (lv_at hl 10 rfl) ?_
                      refine lv_aload_n hx hb dL_isFelt_181 rfl (lv_at hl 9 rfl) ?_
                      refine lv_iload_n hx hb dL_isFelt_182 rfl (lv_at hl 10 rfl) ?_
                      refine okE_I (rx_logLength hi) (rd_logLength hi) rfl (runT_V (As := [.int (nI i)]) (rest := [.int (nI i), .ref (z + 0)]) C (k_X5_logLength l hfl D cy z o d σ1 τ (rfl : kd 0 = 5) (nI i)) hP hS cw_X5_logLength (mA2 (i := 72) rfl rfl) (rfl : kd 0 = 5) ⟨Nat.le_of_ble_eq_true rfl, Nat.le_of_ble_eq_true rfl⟩ rfl (Nat.le_of_ble_eq_true rfl) hl.1 (tcc_0 (rx_logLength hi) ⟨Nat.zero_le _, Nat.zero_le _⟩) dL_isFelt_183) hS (fun H locs hP hS => ?_)
                      refine lv_iconst (v := 1) hx hb dL_isFelt_186 (by decide) ?_
                      refine lv_isub hx hb dL_isFelt_187 ?_
                      refine okE_I fg.1 fg.2 rfl (runT_V (As := [.int (nI i), .int ((σ1 (1 + 1 + 3 * i + 1) 2) - 1)]) (rest := []) C (k_X5_loggedStep l hfl D cy z o d σ1 τ (rfl : kd 0 = 5) (nI i) ((σ1 (1 + 1 + 3 * i + 1) 2) - 1)) hP hS cw_X5_loggedStep (mA2 (i := 172) rfl rfl) (rfl : kd 0 = 5) ⟨Nat.le_of_ble_eq_true rfl, Nat.le_of_ble_eq_true rfl⟩ rfl (Nat.le_of_ble_eq_true rfl) hl.1 (tcc_0 fg.1 ⟨Nat.zero_le _, Nat.zero_le _⟩) dL_isFelt_188) hS (fun H locs hP hS => ?_)
                      refine lv_iload hx hb dL_isFelt_191 (lv_at hl 8 rfl) ?_
                      refine lv_icmp_ne (tgt := 228) hx hb dL_isFelt_193 (by decide) (fun c_193 => ?_) (fun c_193 => ?_)
                      · exact absurd rfl c_193
                      · refine lv_aload_n hx hb dL_isFelt_196 rfl (lv_at hl 9 rfl) ?_
                        refine lv_iload_n hx hb dL_isFelt_197 rfl (lv_at hl 10 rfl) ?_
                        refine okE_I (rx_directionOf hi) (rd_directionOf hi) rfl (runT_V (As := [.int (nI i)]) (rest := []) C (k_X5_directionOf l hfl D cy z o d σ1 τ (rfl : kd 0 = 5) (nI i)) hP hS cw_X5_directionOf (mA2 (i := 76) rfl rfl) (rfl : kd 0 = 5) ⟨Nat.le_of_ble_eq_true rfl, Nat.le_of_ble_eq_true rfl⟩ rfl (Nat.le_of_ble_eq_true rfl) hl.1 (tcc_0 (rx_directionOf hi) ⟨Nat.zero_le _, Nat.zero_le _⟩) dL_isFelt_198) hS (fun H locs hP hS => ?_)
                        refine lv_iload hx hb dL_isFelt_201 (lv_at hl 8 rfl) ?_
                        refine lv_if_le (tgt := 210) hx hb dL_isFelt_203 (by decide) (fun c_203 => ?_) (fun c_203 => ?_)
                        · refine lv_iload hx hb dL_isFelt_210 (lv_at hl 8 rfl) ?_
                          refine lv_if_ge (tgt := 219) hx hb dL_isFelt_212 (by decide) (fun c_212 => ?_) (fun c_212 => ?_)
                          · refine lv_iload hx hb dL_isFelt_219 (lv_at hl 4 rfl) ?_
                            refine lv_icmp_ne (tgt := 228) hx hb dL_isFelt_221 (by decide) (fun c_221 => ?_) (fun c_221 => ?_)
                            · exact absurd (fd.2.2 c_203 c_212) c_221
                            · refine lv_iconst (v := 1) hx hb dL_isFelt_224 (by decide) ?_
                              refine lv_goto (tgt := 229) hx hb dL_isFelt_225 (by decide) ?_
                              refine lv_istore (lv' := [(12, .int 1), (11, .int (σ (1 + 1 + 3 * i) 10)), (10, .int (σ (1 + 1 + 3 * i) 8)), (9, .int 1), (8, .int (σ (1 + 1 + 3 * i) 3)), (7, .int (σ (1 + 1 + 3 * i + 1) 2)), (6, .int (σ (1 + 1 + 3 * i) 11)), (5, .int (σ (1 + 1 + 3 * i) 2)), (4, .int (f_X4_stepUnder σ (1 + 1 + 3 * i) (σ 1 4) y)), (0, .ref (z + 0)), (1, .int (nI i)), (2, .int y), (3, .int w)]) hx hb dL_isFelt_229 hl (by decide) rfl (fun ls hl => ?_)
                              refine lv_iload hx hb dL_isFelt_231 (lv_at hl 0 rfl) ?_
                              refine lv_if_eq (tgt := 280) hx hb dL_isFelt_233 (by decide) (fun c_233 => ?_) (fun c_233 => ?_)
                              · exact absurd c_233 (by decide)
                              · refine lv_iload hx hb dL_isFelt_236 (lv_at hl 3 rfl) ?_
                                refine lv_if_ne (tgt := 256) hx hb dL_isFelt_238 (by decide) (fun c_238 => ?_) (fun c_238 => ?_)
                                · refine lv_iload hx hb dL_isFelt_256 (lv_at hl 8 rfl) ?_
                                  refine lv_aload_n hx hb dL_isFelt_258 rfl (lv_at hl 9 rfl) ?_
                                  refine thnE_I rd_rule rfl (run_V (As := []) (rest := [.int (f_X4_stepUnder σ (1 + 1 + 3 * i) (σ 1 4) y)]) C (k_X5_rule l D cy z o d σ1 τ (rfl : kd 0 = 5)) hP hS cw_X5_rule (mA2 (i := 185) rfl rfl) (rfl : kd 0 = 5) ⟨rfl, rfl⟩ ⟨Nat.le_of_ble_eq_true rfl, Nat.le_of_ble_eq_true rfl⟩ rfl (Nat.le_of_ble_eq_true rfl) hl.1 ⟨Nat.zero_le _, Nat.zero_le _⟩ dL_isFelt_259) hS (fun H locs hP hS => ?_)
                                  refine lv_if_ne (tgt := 269) hx hb dL_isFelt_262 (by decide) (fun c_262 => ?_) (fun c_262 => ?_)
                                  · refine lv_iconst (v := 2) hx hb dL_isFelt_269 (by decide) ?_
                                    refine lv_iload hx hb dL_isFelt_270 (lv_at hl 4 rfl) ?_
                                    refine lv_imul hx hb dL_isFelt_272 ?_
                                    refine lv_icmp_ne (tgt := 280) hx hb dL_isFelt_273 (by decide) (fun c_273 => ?_) (fun c_273 => ?_)
                                    · exact absurd ((fy c_44).2 c_262) c_273
                                    · refine lv_iconst (v := 1) hx hb dL_isFelt_276 (by decide) ?_
                                      refine lv_goto (tgt := 281) hx hb dL_isFelt_277 (by decide) ?_
                                      exact ret_I C hP hS nar_z1 rfl rfl rfl rfl dL_isFelt_281
                                  · refine lv_iconst (v := 0) hx hb dL_isFelt_265 (by decide) ?_
                                    refine lv_goto (tgt := 273) hx hb dL_isFelt_266 (by decide) ?_
                                    refine lv_icmp_ne (tgt := 280) hx hb dL_isFelt_273 (by decide) (fun c_273 => ?_) (fun c_273 => ?_)
                                    · exact absurd ((fy c_44).1 c_262) c_273
                                    · refine lv_iconst (v := 1) hx hb dL_isFelt_276 (by decide) ?_
                                      refine lv_goto (tgt := 281) hx hb dL_isFelt_277 (by decide) ?_
                                      exact ret_I C hP hS nar_z1 rfl rfl rfl rfl dL_isFelt_281
                                · exact absurd c_238 (by decide)
                          · refine lv_iconst (v := (-1)) hx hb dL_isFelt_215 (by decide) ?_
                            refine lv_goto (tgt := 221) hx hb dL_isFelt_216 (by decide) ?_
                            refine lv_icmp_ne (tgt := 228) hx hb dL_isFelt_221 (by decide) (fun c_221 => ?_) (fun c_221 => ?_)
                            · exact absurd (fd.2.1 c_203 c_212) c_221
                            · refine lv_iconst (v := 1) hx hb dL_isFelt_224 (by decide) ?_
                              refine lv_goto (tgt := 229) hx hb dL_isFelt_225 (by decide) ?_
                              refine lv_istore (lv' := [(12, .int 1), (11, .int (σ (1 + 1 + 3 * i) 10)), (10, .int (σ (1 + 1 + 3 * i) 8)), (9, .int 1), (8, .int (σ (1 + 1 + 3 * i) 3)), (7, .int (σ (1 + 1 + 3 * i + 1) 2)), (6, .int (σ (1 + 1 + 3 * i) 11)), (5, .int (σ (1 + 1 + 3 * i) 2)), (4, .int (f_X4_stepUnder σ (1 + 1 + 3 * i) (σ 1 4) y)), (0, .ref (z + 0)), (1, .int (nI i)), (2, .int y), (3, .int w)]) hx hb dL_isFelt_229 hl (by decide) rfl (fun ls hl => ?_)
                              refine lv_iload hx hb dL_isFelt_231 (lv_at hl 0 rfl) ?_
                              refine lv_if_eq (tgt := 280) hx hb dL_isFelt_233 (by decide) (fun c_233 => ?_) (fun c_233 => ?_)
                              · exact absurd c_233 (by decide)
                              · refine lv_iload hx hb dL_isFelt_236 (lv_at hl 3 rfl) ?_
                                refine lv_if_ne (tgt := 256) hx hb dL_isFelt_238 (by decide) (fun c_238 => ?_) (fun c_238 => ?_)
                                · refine lv_iload hx hb dL_isFelt_256 (lv_at hl 8 rfl) ?_
                                  refine lv_aload_n hx hb dL_isFelt_258 rfl (lv_at hl 9 rfl) ?_
                                  refine thnE_I rd_rule rfl (run_V (As := []) (rest := [.int (f_X4_stepUnder σ (1 + 1 + 3 * i) (σ 1 4) y)]) C (k_X5_rule l D cy z o d σ1 τ (rfl : kd 0 = 5)) hP hS cw_X5_rule (mA2 (i := 185) rfl rfl) (rfl : kd 0 = 5) ⟨rfl, rfl⟩ ⟨Nat.le_of_ble_eq_true rfl, Nat.le_of_ble_eq_true rfl⟩ rfl (Nat.le_of_ble_eq_true rfl) hl.1 ⟨Nat.zero_le _, Nat.zero_le _⟩ dL_isFelt_259) hS (fun H locs hP hS => ?_)
                                  refine lv_if_ne (tgt := 269) hx hb dL_isFelt_262 (by decide) (fun c_262 => ?_) (fun c_262 => ?_)
                                  · refine lv_iconst (v := 2) hx hb dL_isFelt_269 (by decide) ?_
                                    refine lv_iload hx hb dL_isFelt_270 (lv_at hl 4 rfl) ?_
                                    refine lv_imul hx hb dL_isFelt_272 ?_
                                    refine lv_icmp_ne (tgt := 280) hx hb dL_isFelt_273 (by decide) (fun c_273 => ?_) (fun c_273 => ?_)
                                    · exact absurd ((fy c_44).2 c_262) c_273
                                    · refine lv_iconst (v := 1) hx hb dL_isFelt_276 (by decide) ?_
                                      refine lv_goto (tgt := 281) hx hb dL_isFelt_277 (by decide) ?_
                                      exact ret_I C hP hS nar_z1 rfl rfl rfl rfl dL_isFelt_281
                                  · refine lv_iconst (v := 0) hx hb dL_isFelt_265 (by decide) ?_
                                    refine lv_goto (tgt := 273) hx hb dL_isFelt_266 (by decide) ?_
                                    refine lv_icmp_ne (tgt := 280) hx hb dL_isFelt_273 (by decide) (fun c_273 => ?_) (fun c_273 => ?_)
                                    · exact absurd ((fy c_44).1 c_262) c_273
                                    · refine lv_iconst (v := 1) hx hb dL_isFelt_276 (by decide) ?_
                                      refine lv_goto (tgt := 281) hx hb dL_isFelt_277 (by decide) ?_
                                      exact ret_I C hP hS nar_z1 rfl rfl rfl rfl dL_isFelt_281
                                · exact absurd c_238 (by decide)
                        · refine lv_iconst (v := 1) hx hb dL_isFelt_206 (by decide) ?_
                          refine lv_goto (tgt := 221) hx hb dL_isFelt_207 (by decide) ?_
                          refine lv_icmp_ne (tgt := 228) hx hb dL_isFelt_221 (by decide) (fun c_221 => ?_) (fun c_221 => ?_)
                          · exact absurd (fd.1 c_203) c_221
                          · refine lv_iconst (v := 1) hx hb dL_isFelt_224 (by decide) ?_
                            refine lv_goto (tgt := 229) hx hb dL_isFelt_225 (by decide) ?_
                            refine lv_istore (lv' := [(12, .int 1), (11, .int (σ (1 + 1 + 3 * i) 10)), (10, .int (σ (1 + 1 + 3 * i) 8)), (9, .int 1), (8, .int (σ (1 + 1 + 3 * i) 3)), (7, .int (σ (1 + 1 + 3 * i + 1) 2)), (6, .int (σ (1 + 1 + 3 * i) 11)), (5, .int (σ (1 + 1 + 3 * i) 2)), (4, .int (f_X4_stepUnder σ (1 + 1 + 3 * i) (σ 1 4) y)), (0, .ref (z + 0)), (1, .int (nI i)), (2, .int y), (3, .int w)]) hx hb dL_isFelt_229 hl (by decide) rfl (fun ls hl => ?_)
                            refine lv_iload hx hb dL_isFelt_231 (lv_at hl 0 rfl) ?_
                            refine lv_if_eq (tgt := 280) hx hb dL_isFelt_233 (by decide) (fun c_233 => ?_) (fun c_233 => ?_)
                            · exact absurd c_233 (by decide)
                            · refine lv_iload hx hb dL_isFelt_236 (lv_at hl 3 rfl) ?_
                              refine lv_if_ne (tgt := 256) hx hb dL_isFelt_238 (by decide) (fun c_238 => ?_) (fun c_238 => ?_)
                              · refine lv_iload hx hb dL_isFelt_256 (lv_at hl 8 rfl) ?_
                                refine lv_aload_n hx hb dL_isFelt_258 rfl (lv_at hl 9 rfl) ?_
                                refine thnE_I rd_rule rfl (run_V (As := []) (rest := [.int (f_X4_stepUnder σ (1 + 1 + 3 * i) (σ 1 4) y)]) C (k_X5_rule l D cy z o d σ1 τ (rfl : kd 0 = 5)) hP hS cw_X5_rule (mA2 (i := 185) rfl rfl) (rfl : kd 0 = 5) ⟨rfl, rfl⟩ ⟨Nat.le_of_ble_eq_true rfl, Nat.le_of_ble_eq_true rfl⟩ rfl (Nat.le_of_ble_eq_true rfl) hl.1 ⟨Nat.zero_le _, Nat.zero_le _⟩ dL_isFelt_259) hS (fun H locs hP hS => ?_)
                                refine lv_if_ne (tgt := 269) hx hb dL_isFelt_262 (by decide) (fun c_262 => ?_) (fun c_262 => ?_)
                                · refine lv_iconst (v := 2) hx hb dL_isFelt_269 (by decide) ?_
                                  refine lv_iload hx hb dL_isFelt_270 (lv_at hl 4 rfl) ?_
                                  refine lv_imul hx hb dL_isFelt_272 ?_
                                  refine lv_icmp_ne (tgt := 280) hx hb dL_isFelt_273 (by decide) (fun c_273 => ?_) (fun c_273 => ?_)
                                  · exact absurd ((fy c_44).2 c_262) c_273
                                  · refine lv_iconst (v := 1) hx hb dL_isFelt_276 (by decide) ?_
                                    refine lv_goto (tgt := 281) hx hb dL_isFelt_277 (by decide) ?_
                                    exact ret_I C hP hS nar_z1 rfl rfl rfl rfl dL_isFelt_281
                                · refine lv_iconst (v := 0) hx hb dL_isFelt_265 (by decide) ?_
                                  refine lv_goto (tgt := 273) hx hb dL_isFelt_266 (by decide) ?_
                                  refine lv_icmp_ne (tgt := 280) hx hb dL_isFelt_273 (by decide) (fun c_273 => ?_) (fun c_273 => ?_)
                                  · exact absurd ((fy c_44).1 c_262) c_273
                                  · refine lv_iconst (v := 1) hx hb dL_isFelt_276 (by decide) ?_
                                    refine lv_goto (tgt := 281) hx hb dL_isFelt_277 (by decide) ?_
                                    exact ret_I C hP hS nar_z1 rfl rfl rfl rfl dL_isFelt_281
                              · exact absurd c_238 (by decide)
                  · refine lv_iload hx hb dL_isFelt_167 (lv_at hl 5 rfl) ?_
                    refine lv_iconst (v := 1) hx hb dL_isFelt_169 (by decide) ?_
                    refine lv_iadd hx hb dL_isFelt_170 ?_
                    refine lv_goto (tgt := 176) hx hb dL_isFelt_171 (by decide) ?_
                    refine lv_icmp_ne (tgt := 228) hx hb dL_isFelt_176 (by decide) (fun c_176 => ?_) (fun c_176 => ?_)
                    · exact absurd (fl.1 c_164) c_176
                    · refine lv_aload_n hx hb dL_isFelt_179 rfl (lv_at hl 9 rfl) ?_
                      refine lv_iload_n hx hb dL_isFelt_180 rfl (lv_at hl 10 rfl) ?_
                      refine lv_aload_n hx hb dL_isFelt_181 rfl (lv_at hl 9 rfl) ?_
                      refine lv_iload_n hx hb dL_isFelt_182 rfl (lv_at hl 10 rfl) ?_
                      refine okE_I (rx_logLength hi) (rd_logLength hi) rfl (runT_V (As := [.int (nI i)]) (rest := [.int (nI i), .ref (z + 0)]) C (k_X5_logLength l hfl D cy z o d σ1 τ (rfl : kd 0 = 5) (nI i)) hP hS cw_X5_logLength (mA2 (i := 72) rfl rfl) (rfl : kd 0 = 5) ⟨Nat.le_of_ble_eq_true rfl, Nat.le_of_ble_eq_true rfl⟩ rfl (Nat.le_of_ble_eq_true rfl) hl.1 (tcc_0 (rx_logLength hi) ⟨Nat.zero_le _, Nat.zero_le _⟩) dL_isFelt_183) hS (fun H locs hP hS => ?_)
                      refine lv_iconst (v := 1) hx hb dL_isFelt_186 (by decide) ?_
                      refine lv_isub hx hb dL_isFelt_187 ?_
                      refine okE_I fg.1 fg.2 rfl (runT_V (As := [.int (nI i), .int ((σ1 (1 + 1 + 3 * i + 1) 2) - 1)]) (rest := []) C (k_X5_loggedStep l hfl D cy z o d σ1 τ (rfl : kd 0 = 5) (nI i) ((σ1 (1 + 1 + 3 * i + 1) 2) - 1)) hP hS cw_X5_loggedStep (mA2 (i := 172) rfl rfl) (rfl : kd 0 = 5) ⟨Nat.le_of_ble_eq_true rfl, Nat.le_of_ble_eq_true rfl⟩ rfl (Nat.le_of_ble_eq_true rfl) hl.1 (tcc_0 fg.1 ⟨Nat.zero_le _, Nat.zero_le _⟩) dL_isFelt_188) hS (fun H locs hP hS => ?_)
                      refine lv_iload hx hb dL_isFelt_191 (lv_at hl 8 rfl) ?_
                      refine lv_icmp_ne (tgt := 228) hx hb dL_isFelt_193 (by decide) (fun c_193 => ?_) (fun c_193 => ?_)
                      · exact absurd rfl c_193
                      · refine lv_aload_n hx hb dL_isFelt_196 rfl (lv_at hl 9 rfl) ?_
                        refine lv_iload_n hx hb dL_isFelt_197 rfl (lv_at hl 10 rfl) ?_
                        refine okE_I (rx_directionOf hi) (rd_directionOf hi) rfl (runT_V (As := [.int (nI i)]) (rest := []) C (k_X5_directionOf l hfl D cy z o d σ1 τ (rfl : kd 0 = 5) (nI i)) hP hS cw_X5_directionOf (mA2 (i := 76) rfl rfl) (rfl : kd 0 = 5) ⟨Nat.le_of_ble_eq_true rfl, Nat.le_of_ble_eq_true rfl⟩ rfl (Nat.le_of_ble_eq_true rfl) hl.1 (tcc_0 (rx_directionOf hi) ⟨Nat.zero_le _, Nat.zero_le _⟩) dL_isFelt_198) hS (fun H locs hP hS => ?_)
                        refine lv_iload hx hb dL_isFelt_201 (lv_at hl 8 rfl) ?_
                        refine lv_if_le (tgt := 210) hx hb dL_isFelt_203 (by decide) (fun c_203 => ?_) (fun c_203 => ?_)
                        · refine lv_iload hx hb dL_isFelt_210 (lv_at hl 8 rfl) ?_
                          refine lv_if_ge (tgt := 219) hx hb dL_isFelt_212 (by decide) (fun c_212 => ?_) (fun c_212 => ?_)
                          · refine lv_iload hx hb dL_isFelt_219 (lv_at hl 4 rfl) ?_
                            refine lv_icmp_ne (tgt := 228) hx hb dL_isFelt_221 (by decide) (fun c_221 => ?_) (fun c_221 => ?_)
                            · exact absurd (fd.2.2 c_203 c_212) c_221
                            · refine lv_iconst (v := 1) hx hb dL_isFelt_224 (by decide) ?_
                              refine lv_goto (tgt := 229) hx hb dL_isFelt_225 (by decide) ?_
                              refine lv_istore (lv' := [(12, .int 1), (11, .int (σ (1 + 1 + 3 * i) 10)), (10, .int (σ (1 + 1 + 3 * i) 8)), (9, .int 1), (8, .int (σ (1 + 1 + 3 * i) 3)), (7, .int (σ (1 + 1 + 3 * i + 1) 2)), (6, .int (σ (1 + 1 + 3 * i) 11)), (5, .int (σ (1 + 1 + 3 * i) 2)), (4, .int (f_X4_stepUnder σ (1 + 1 + 3 * i) (σ 1 4) y)), (0, .ref (z + 0)), (1, .int (nI i)), (2, .int y), (3, .int w)]) hx hb dL_isFelt_229 hl (by decide) rfl (fun ls hl => ?_)
                              refine lv_iload hx hb dL_isFelt_231 (lv_at hl 0 rfl) ?_
                              refine lv_if_eq (tgt := 280) hx hb dL_isFelt_233 (by decide) (fun c_233 => ?_) (fun c_233 => ?_)
                              · exact absurd c_233 (by decide)
                              · refine lv_iload hx hb dL_isFelt_236 (lv_at hl 3 rfl) ?_
                                refine lv_if_ne (tgt := 256) hx hb dL_isFelt_238 (by decide) (fun c_238 => ?_) (fun c_238 => ?_)
                                · refine lv_iload hx hb dL_isFelt_256 (lv_at hl 8 rfl) ?_
                                  refine lv_aload_n hx hb dL_isFelt_258 rfl (lv_at hl 9 rfl) ?_
                                  refine thnE_I rd_rule rfl (run_V (As := []) (rest := [.int (f_X4_stepUnder σ (1 + 1 + 3 * i) (σ 1 4) y)]) C (k_X5_rule l D cy z o d σ1 τ (rfl : kd 0 = 5)) hP hS cw_X5_rule (mA2 (i := 185) rfl rfl) (rfl : kd 0 = 5) ⟨rfl, rfl⟩ ⟨Nat.le_of_ble_eq_true rfl, Nat.le_of_ble_eq_true rfl⟩ rfl (Nat.le_of_ble_eq_true rfl) hl.1 ⟨Nat.zero_le _, Nat.zero_le _⟩ dL_isFelt_259) hS (fun H locs hP hS => ?_)
                                  refine lv_if_ne (tgt := 269) hx hb dL_isFelt_262 (by decide) (fun c_262 => ?_) (fun c_262 => ?_)
                                  · refine lv_iconst (v := 2) hx hb dL_isFelt_269 (by decide) ?_
                                    refine lv_iload hx hb dL_isFelt_270 (lv_at hl 4 rfl) ?_
                                    refine lv_imul hx hb dL_isFelt_272 ?_
                                    refine lv_icmp_ne (tgt := 280) hx hb dL_isFelt_273 (by decide) (fun c_273 => ?_) (fun c_273 => ?_)
                                    · exact absurd ((fy c_44).2 c_262) c_273
                                    · refine lv_iconst (v := 1) hx hb dL_isFelt_276 (by decide) ?_
                                      refine lv_goto (tgt := 281) hx hb dL_isFelt_277 (by decide) ?_
                                      exact ret_I C hP hS nar_z1 rfl rfl rfl rfl dL_isFelt_281
                                  · refine lv_iconst (v := 0) hx hb dL_isFelt_265 (by decide) ?_
                                    refine lv_goto (tgt := 273) hx hb dL_isFelt_266 (by decide) ?_
                                    refine lv_icmp_ne (tgt := 280) hx hb dL_isFelt_273 (by decide) (fun c_273 => ?_) (fun c_273 => ?_)
                                    · exact absurd ((fy c_44).1 c_262) c_273
                                    · refine lv_iconst (v := 1) hx hb dL_isFelt_276 (by decide) ?_
                                      refine lv_goto (tgt := 281) hx hb dL_isFelt_277 (by decide) ?_
                                      exact ret_I C hP hS nar_z1 rfl rfl rfl rfl dL_isFelt_281
                                · exact absurd c_238 (by decide)
                          · refine lv_iconst (v := (-1)) hx hb dL_isFelt_215 (by decide) ?_
                            refine lv_goto (tgt := 221) hx hb dL_isFelt_216 (by decide) ?_
                            refine lv_icmp_ne (tgt := 228) hx hb dL_isFelt_221 (by decide) (fun c_221 => ?_) (fun c_221 => ?_)
                            · exact absurd (fd.2.1 c_203 c_212) c_221
                            · refine lv_iconst (v := 1) hx hb dL_isFelt_224 (by decide) ?_
                              refine lv_goto (tgt := 229) hx hb dL_isFelt_225 (by decide) ?_
                              refine lv_istore (lv' := [(12, .int 1), (11, .int (σ (1 + 1 + 3 * i) 10)), (10, .int (σ (1 + 1 + 3 * i) 8)), (9, .int 1), (8, .int (σ (1 + 1 + 3 * i) 3)), (7, .int (σ (1 + 1 + 3 * i + 1) 2)), (6, .int (σ (1 + 1 + 3 * i) 11)), (5, .int (σ (1 + 1 + 3 * i) 2)), (4, .int (f_X4_stepUnder σ (1 + 1 + 3 * i) (σ 1 4) y)), (0, .ref (z + 0)), (1, .int (nI i)), (2, .int y), (3, .int w)]) hx hb dL_isFelt_229 hl (by decide) rfl (fun ls hl => ?_)
                              refine lv_iload hx hb dL_isFelt_231 (lv_at hl 0 rfl) ?_
                              refine lv_if_eq (tgt := 280) hx hb dL_isFelt_233 (by decide) (fun c_233 => ?_) (fun c_233 => ?_)
                              · exact absurd c_233 (by decide)
                              · refine lv_iload hx hb dL_isFelt_236 (lv_at hl 3 rfl) ?_
                                refine lv_if_ne (tgt := 256) hx hb dL_isFelt_238 (by decide) (fun c_238 => ?_) (fun c_238 => ?_)
                                · refine lv_iload hx hb dL_isFelt_256 (lv_at hl 8 rfl) ?_
                                  refine lv_aload_n hx hb dL_isFelt_258 rfl (lv_at hl 9 rfl) ?_
                                  refine thnE_I rd_rule rfl (run_V (As := []) (rest := [.int (f_X4_stepUnder σ (1 + 1 + 3 * i) (σ 1 4) y)]) C (k_X5_rule l D cy z o d σ1 τ (rfl : kd 0 = 5)) hP hS cw_X5_rule (mA2 (i := 185) rfl rfl) (rfl : kd 0 = 5) ⟨rfl, rfl⟩ ⟨Nat.le_of_ble_eq_true rfl, Nat.le_of_ble_eq_true rfl⟩ rfl (Nat.le_of_ble_eq_true rfl) hl.1 ⟨Nat.zero_le _, Nat.zero_le _⟩ dL_isFelt_259) hS (fun H locs hP hS => ?_)
                                  refine lv_if_ne (tgt := 269) hx hb dL_isFelt_262 (by decide) (fun c_262 => ?_) (fun c_262 => ?_)
                                  · refine lv_iconst (v := 2) hx hb dL_isFelt_269 (by decide) ?_
                                    refine lv_iload hx hb dL_isFelt_270 (lv_at hl 4 rfl) ?_
                                    refine lv_imul hx hb dL_isFelt_272 ?_
                                    refine lv_icmp_ne (tgt := 280) hx hb dL_isFelt_273 (by decide) (fun c_273 => ?_) (fun c_273 => ?_)
                                    · exact absurd ((fy c_44).2 c_262) c_273
                                    · refine lv_iconst (v := 1) hx hb dL_isFelt_276 (by decide) ?_
                                      refine lv_goto (tgt := 281) hx hb dL_isFelt_277 (by decide) ?_
                                      exact ret_I C hP hS nar_z1 rfl rfl rfl rfl dL_isFelt_281
                                  · refine lv_iconst (v := 0) hx hb dL_isFelt_265 (by decide) ?_
                                    refine lv_goto (tgt := 273) hx hb dL_isFelt_266 (by decide) ?_
                                    refine lv_icmp_ne (tgt := 280) hx hb dL_isFelt_273 (by decide) (fun c_273 => ?_) (fun c_273 => ?_)
                                    · exact absurd ((fy c_44).1 c_262) c_273
                                    · refine lv_iconst (v := 1) hx hb dL_isFelt_276 (by decide) ?_
                                      refine lv_goto (tgt := 281) hx hb dL_isFelt_277 (by decide) ?_
                                      exact ret_I C hP hS nar_z1 rfl rfl rfl rfl dL_isFelt_281
                                · exact absurd c_238 (by decide)
                        · refine lv_iconst (v := 1) hx hb dL_isFelt_206 (by decide) ?_
                          refine lv_goto (tgt := 221) hx hb dL_isFelt_207 (by decide) ?_
                          refine lv_icmp_ne (tgt := 228) hx hb dL_isFelt_221 (by decide) (fun c_221 => ?_) (fun c_221 => ?_)
                          · exact absurd (fd.1 c_203) c_221
                          · refine lv_iconst (v := 1) hx hb dL_isFelt_224 (by decide) ?_
                            refine lv_goto (tgt := 229) hx hb dL_isFelt_225 (by decide) ?_
                            refine lv_istore (lv' := [(12, .int 1), (11, .int (σ (1 + 1 + 3 * i) 10)), (10, .int (σ (1 + 1 + 3 * i) 8)), (9, .int 1), (8, .int (σ (1 + 1 + 3 * i) 3)), (7, .int (σ (1 + 1 + 3 * i + 1) 2)), (6, .int (σ (1 + 1 + 3 * i) 11)), (5, .int (σ (1 + 1 + 3 * i) 2)), (4, .int (f_X4_stepUnder σ (1 + 1 + 3 * i) (σ 1 4) y)), (0, .ref (z + 0)), (1, .int (nI i)), (2, .int y), (3, .int w)]) hx hb dL_isFelt_229 hl (by decide) rfl (fun ls hl => ?_)
                            refine lv_iload hx hb dL_isFelt_231 (lv_at hl 0 rfl) ?_
                            refine lv_if_eq (tgt := 280) hx hb dL_isFelt_233 (by decide) (fun c_233 => ?_) (fun c_233 => ?_)
                            · exact absurd c_233 (by decide)
                            · refine lv_iload hx hb dL_isFelt_236 (lv_at hl 3 rfl) ?_
                              refine lv_if_ne (tgt := 256) hx hb dL_isFelt_238 (by decide) (fun c_238 => ?_) (fun c_238 => ?_)
                              · refine lv_iload hx hb dL_isFelt_256 (lv_at hl 8 rfl) ?_
                                refine lv_aload_n hx hb dL_isFelt_258 rfl (lv_at hl 9 rfl) ?_
                                refine thnE_I rd_rule rfl (run_V (As := []) (rest := [.int (f_X4_stepUnder σ (1 + 1 + 3 * i) (σ 1 4) y)]) C (k_X5_rule l D cy z o d σ1 τ (rfl : kd 0 = 5)) hP hS cw_X5_rule (mA2 (i := 185) rfl rfl) (rfl : kd 0 = 5) ⟨rfl, rfl⟩ ⟨Nat.le_of_ble_eq_true rfl, Nat.le_of_ble_eq_true rfl⟩ rfl (Nat.le_of_ble_eq_true rfl) hl.1 ⟨Nat.zero_le _, Nat.zero_le _⟩ dL_isFelt_259) hS (fun H locs hP hS => ?_)
                                refine lv_if_ne (tgt := 269) hx hb dL_isFelt_262 (by decide) (fun c_262 => ?_) (fun c_262 => ?_)
                                · refine lv_iconst (v := 2) hx hb dL_isFelt_269 (by decide) ?_
                                  refine lv_iload hx hb dL_isFelt_270 (lv_at hl 4 rfl) ?_
                                  refine lv_imul hx hb dL_isFelt_272 ?_
                                  refine lv_icmp_ne (tgt := 280) hx hb dL_isFelt_273 (by decide) (fun c_273 => ?_) (fun c_273 => ?_)
                                  · exact absurd ((fy c_44).2 c_262) c_273
                                  · refine lv_iconst (v := 1) hx hb dL_isFelt_276 (by decide) ?_
                                    refine lv_goto (tgt := 281) hx hb dL_isFelt_277 (by decide) ?_
                                    exact ret_I C hP hS nar_z1 rfl rfl rfl rfl dL_isFelt_281
                                · refine lv_iconst (v := 0) hx hb dL_isFelt_265 (by decide) ?_
                                  refine lv_goto (tgt := 273) hx hb dL_isFelt_266 (by decide) ?_
                                  refine lv_icmp_ne (tgt := 280) hx hb dL_isFelt_273 (by decide) (fun c_273 => ?_) (fun c_273 => ?_)
                                  · exact absurd ((fy c_44).1 c_262) c_273
                                  · refine lv_iconst (v := 1) hx hb dL_isFelt_276 (by decide) ?_
                                    refine lv_goto (tgt := 281) hx hb dL_isFelt_277 (by decide) ?_
                                    exact ret_I C hP hS nar_z1 rfl rfl rfl rfl dL_isFelt_281
                              · exact absurd c_238 (by decide)
end
section
/-! the law's isMarked -/
theorem cw_L_isMarked : cwSt yL_isMarked cL_isMarked 6 (some .boolean) 2 := ⟨(mA2 (i := 196) rfl rfl), (mA1 (i := 0) rfl rfl), (mA2 (i := 197) rfl rfl), by decide +kernel⟩
abbrev rm_L_isMarked : Room := { frames := 8, cells := 0, slots := 0, locals := 125 }
set_option maxHeartbeats 4000000 in
set_option maxRecDepth 100000 in
theorem k_L_isMarked (l : Launch) (hfl : l.stackTraces = false) (D : va_G) (cy : Nat → ClassId) (z : Nat) (o : Int64) (d : UInt64) (τ : Sg) {σ : Sg} {B i : Nat} (h : GN B σ) (hi : i < 4) (hB : B + 40000 ≤ 1000000000) : KI l yL_isMarked cL_isMarked 6 (some .boolean) rm_L_isMarked D cy z [.ref (z + 0), .int (nI i)] o d σ τ 1 (s_X5_meetMark (s_X5_meetMark σ 0 (nI i)) 0 (nI i)) τ := by
  refine met_of RL (plainFor_of_name (by decide)) rfl (Nat.le_of_ble_eq_true rfl) ?_
  intro p e s m args below meth c C hP hS ls hl
  obtain ⟨hx, hb, hr, hml, hown, hW, hlocks, hAm⟩ := id C
  have hl : lv_has ls 6 [(0, .ref (z + 0)), (1, .int (nI i))] := hl
  obtain ⟨mx, mf, mG, m9, m2, mm, m1⟩ := mark_ok h hi (by omega)
  generalize hs1 : s_X5_meetMark σ 0 (nI i) = σ1 at mG m9 m2 mm m1 ⊢
  obtain ⟨nx, nf, nG, -, -, -, -⟩ := mark_ok mG hi (by omega)
  rw [← m1] at mm
  have mp0 : f_X4_placeIn σ1 (1 + 1 + 3 * i) (σ1 1 5) = 0 := by
    apply Int32.toInt_inj.mp
    rw [(place_int mG.2.2.1).1, mm]
    rfl
  have nf0 : f_X4_passMark σ1 (1 + 1 + 3 * i) (σ1 1 5) = 0 := (mark_int mG.2.2.1).2.2 mm
  generalize hs2 : s_X5_meetMark σ1 0 (nI i) = σ2 at nG ⊢
  refine lv_aload_n hx hb dL_isMarked_0 rfl (lv_at hl 0 rfl) ?_
  refine lv_iload_n hx hb dL_isMarked_1 rfl (lv_at hl 1 rfl) ?_
  refine okE_I (rx_placeOf hi) (rd_placeOf hi) rfl (runT_V (As := [.int (nI i)]) (rest := []) C (k_X5_placeOf l hfl D cy z o d σ τ (rfl : kd 0 = 5) (nI i)) hP hS cw_X5_placeOf (mA2 (i := 198) rfl rfl) (rfl : kd 0 = 5) ⟨Nat.le_of_ble_eq_true rfl, Nat.le_of_ble_eq_true rfl⟩ rfl (Nat.le_of_ble_eq_true rfl) hl.1 (tcc_0 (rx_placeOf hi) ⟨Nat.zero_le _, Nat.zero_le _⟩) dL_isMarked_2) hS (fun H locs hP hS => ?_)
  refine lv_istore_n (lv' := [(2, .int (f_X4_placeIn σ (1 + 1 + 3 * i) (σ 1 5))), (0, .ref (z + 0)), (1, .int (nI i))]) hx hb dL_isMarked_5 rfl hl (by decide) rfl (fun ls hl => ?_)
  refine lv_aload_n hx hb dL_isMarked_6 rfl (lv_at hl 1 rfl) ?_
  refine lv_iload_n hx hb dL_isMarked_7 rfl (lv_at hl 2 rfl) ?_
  refine okE_I (rx_slipsOf hi) (rd_slipsOf hi) rfl (runT_V (As := [.int (nI i)]) (rest := []) C (k_X5_slipsOf l hfl D cy z o d σ τ (rfl : kd 0 = 5) (nI i)) hP hS cw_X5_slipsOf (mA2 (i := 209) rfl rfl) (rfl : kd 0 = 5) ⟨Nat.le_of_ble_eq_true rfl, Nat.le_of_ble_eq_true rfl⟩ rfl (Nat.le_of_ble_eq_true rfl) hl.1 (tcc_0 (rx_slipsOf hi) ⟨Nat.zero_le _, Nat.zero_le _⟩) dL_isMarked_8) hS (fun H locs hP hS => ?_)
  refine lv_istore_n (lv' := [(3, .int (σ (1 + 1 + 3 * i) 9)), (2, .int (f_X4_placeIn σ (1 + 1 + 3 * i) (σ 1 5))), (0, .ref (z + 0)), (1, .int (nI i))]) hx hb dL_isMarked_11 rfl hl (by decide) rfl (fun ls hl => ?_)
  refine lv_aload_n hx hb dL_isMarked_12 rfl (lv_at hl 2 rfl) ?_
  refine lv_iload_n hx hb dL_isMarked_13 rfl (lv_at hl 3 rfl) ?_
  refine okE_I (rx_positionOf hi) (rd_positionOf hi) rfl (runT_V (As := [.int (nI i)]) (rest := []) C (k_X5_positionOf l hfl D cy z o d σ τ (rfl : kd 0 = 5) (nI i)) hP hS cw_X5_positionOf (mA2 (i := 64) rfl rfl) (rfl : kd 0 = 5) ⟨Nat.le_of_ble_eq_true rfl, Nat.le_of_ble_eq_true rfl⟩ rfl (Nat.le_of_ble_eq_true rfl) hl.1 (tcc_0 (rx_positionOf hi) ⟨Nat.zero_le _, Nat.zero_le _⟩) dL_isMarked_14) hS (fun H locs hP hS => ?_)
  refine lv_istore (lv' := [(4, .int (σ (1 + 1 + 3 * i) 2)), (3, .int (σ (1 + 1 + 3 * i) 9)), (2, .int (f_X4_placeIn σ (1 + 1 + 3 * i) (σ 1 5))), (0, .ref (z + 0)), (1, .int (nI i))]) hx hb dL_isMarked_17 hl (by decide) rfl (fun ls hl => ?_)
  refine lv_iconst (v := 2) hx hb dL_isMarked_19 (by decide) ?_
  refine lv_iload_n hx hb dL_isMarked_20 rfl (lv_at hl 2 rfl) ?_
  refine lv_imul hx hb dL_isMarked_21 ?_
  refine lv_aload_n hx hb dL_isMarked_22 rfl (lv_at hl 3 rfl) ?_
  refine thnE_I rd_counts rfl (run_V (As := []) (rest := [.int (2 * (f_X4_placeIn σ (1 + 1 + 3 * i) (σ 1 5)))]) C (k_X5_counts l D cy z o d σ τ (rfl : kd 0 = 5)) hP hS cw_X5_counts (mA2 (i := 213) rfl rfl) (rfl : kd 0 = 5) ⟨rfl, rfl⟩ ⟨Nat.le_of_ble_eq_true rfl, Nat.le_of_ble_eq_true rfl⟩ rfl (Nat.le_of_ble_eq_true rfl) hl.1 ⟨Nat.zero_le _, Nat.zero_le _⟩ dL_isMarked_23) hS (fun H locs hP hS => ?_)
  refine lv_icmp_gt (tgt := 33) hx hb dL_isMarked_26 (by decide) (fun c_26 => ?_) (fun c_26 => ?_)
  · refine lv_iload_n hx hb dL_isMarked_33 rfl (lv_at hl 2 rfl) ?_
    refine lv_aload_n hx hb dL_isMarked_34 rfl (lv_at hl 3 rfl) ?_
    refine thnE_I rd_counts rfl (run_V (As := []) (rest := [.int (f_X4_placeIn σ (1 + 1 + 3 * i) (σ 1 5))]) C (k_X5_counts l D cy z o d σ τ (rfl : kd 0 = 5)) hP hS cw_X5_counts (mA2 (i := 213) rfl rfl) (rfl : kd 0 = 5) ⟨rfl, rfl⟩ ⟨Nat.le_of_ble_eq_true rfl, Nat.le_of_ble_eq_true rfl⟩ rfl (Nat.le_of_ble_eq_true rfl) hl.1 ⟨Nat.zero_le _, Nat.zero_le _⟩ dL_isMarked_35) hS (fun H locs hP hS => ?_)
    refine lv_isub hx hb dL_isMarked_38 ?_
    have ho : f_X4_passMark σ (1 + 1 + 3 * i) (σ 1 5) = (f_X4_placeIn σ (1 + 1 + 3 * i) (σ 1 5)) - (σ 1 5) := by unfold f_X4_passMark; exact if_pos c_26
    refine lv_istore (lv' := [(5, .int ((f_X4_placeIn σ (1 + 1 + 3 * i) (σ 1 5)) - (σ 1 5))), (4, .int (σ (1 + 1 + 3 * i) 2)), (3, .int (σ (1 + 1 + 3 * i) 9)), (2, .int (f_X4_placeIn σ (1 + 1 + 3 * i) (σ 1 5))), (0, .ref (z + 0)), (1, .int (nI i))]) hx hb dL_isMarked_39 hl (by decide) rfl (fun ls hl => ?_)
    refine lv_aload_n hx hb dL_isMarked_41 rfl (lv_at hl 4 rfl) ?_
    refine lv_iload_n hx hb dL_isMarked_42 rfl (lv_at hl 5 rfl) ?_
    refine okE_I mx (mf.trans ho) hs1 (runT_V (As := [.int (nI i)]) (rest := []) C (k_X5_meetMark l hfl D cy z o d σ τ (rfl : kd 0 = 5) (nI i)) hP hS cw_X5_meetMark (mA2 (i := 217) rfl rfl) (rfl : kd 0 = 5) ⟨Nat.le_of_ble_eq_true rfl, Nat.le_of_ble_eq_true rfl⟩ rfl (Nat.le_of_ble_eq_true rfl) hl.1 (tcc_0 mx ⟨Nat.zero_le _, Nat.zero_le _⟩) dL_isMarked_43) hS (fun H locs hP hS => ?_)
    refine lv_iload hx hb dL_isMarked_46 (lv_at hl 0 rfl) ?_
    refine lv_icmp_ne (tgt := 99) hx hb dL_isMarked_48 (by decide) (fun c_48 => ?_) (fun c_48 => ?_)
    · exact absurd rfl c_48
    · refine lv_aload_n hx hb dL_isMarked_51 rfl (lv_at hl 4 rfl) ?_
      refine lv_iload_n hx hb dL_isMarked_52 rfl (lv_at hl 5 rfl) ?_
      refine okE_I (rx_slipsOf hi) (rd_slipsOf hi) rfl (runT_V (As := [.int (nI i)]) (rest := []) C (k_X5_slipsOf l hfl D cy z o d σ1 τ (rfl : kd 0 = 5) (nI i)) hP hS cw_X5_slipsOf (mA2 (i := 209) rfl rfl) (rfl : kd 0 = 5) ⟨Nat.le_of_ble_eq_true rfl, Nat.le_of_ble_eq_true rfl⟩ rfl (Nat.le_of_ble_eq_true rfl) hl.1 (tcc_0 (rx_slipsOf hi) ⟨Nat.zero_le _, Nat.zero_le _⟩) dL_isMarked_53) hS (fun H locs hP hS => ?_)
      refine lv_iload_n hx hb dL_isMarked_56 rfl (lv_at hl 2 rfl) ?_
      refine lv_iload hx hb dL_isMarked_57 (lv_at hl 0 rfl) ?_
      refine thnE_I rfl rfl (run_S (As := [.int ((f_X4_placeIn σ (1 + 1 + 3 * i) (σ 1 5)) - (σ 1 5))]) (rest := [.int (σ (1 + 1 + 3 * i) 9), .int (σ1 (1 + 1 + 3 * i) 9)]) C (k_L_size l D cy z o d σ1 τ ((f_X4_placeIn σ (1 + 1 + 3 * i) (σ 1 5)) - (σ 1 5))) hP hS cw_L_size (mA2 (i := 169) rfl rfl) ⟨rfl, rfl⟩ ⟨Nat.le_of_ble_eq_true rfl, Nat.le_of_ble_eq_true rfl⟩ rfl (Nat.le_of_ble_eq_true rfl) hl.1 ⟨Nat.zero_le _, Nat.zero_le _⟩ dL_isMarked_59) hS (fun H locs hP hS => ?_)
      refine lv_iadd hx hb dL_isMarked_62 ?_
      refine lv_icmp_ne (tgt := 99) hx hb dL_isMarked_63 (by decide) (fun c_63 => ?_) (fun c_63 => ?_)
      · exact absurd (by rw [m9, ho, size_ab]) c_63
      · refine lv_aload_n hx hb dL_isMarked_66 rfl (lv_at hl 4 rfl) ?_
        refine lv_iload_n hx hb dL_isMarked_67 rfl (lv_at hl 5 rfl) ?_
        refine okE_I (rx_positionOf hi) (rd_positionOf hi) rfl (runT_V (As := [.int (nI i)]) (rest := []) C (k_X5_positionOf l hfl D cy z o d σ1 τ (rfl : kd 0 = 5) (nI i)) hP hS cw_X5_positionOf (mA2 (i := 64) rfl rfl) (rfl : kd 0 = 5) ⟨Nat.le_of_ble_eq_true rfl, Nat.le_of_ble_eq_true rfl⟩ rfl (Nat.le_of_ble_eq_true rfl) hl.1 (tcc_0 (rx_positionOf hi) ⟨Nat.zero_le _, Nat.zero_le _⟩) dL_isMarked_68) hS (fun H locs hP hS => ?_)
        refine lv_iload hx hb dL_isMarked_71 (lv_at hl 1 rfl) ?_
        refine lv_iload hx hb dL_isMarked_73 (lv_at hl 0 rfl) ?_
        refine lv_isub hx hb dL_isMarked_75 ?_
        refine lv_icmp_ne (tgt := 99) hx hb dL_isMarked_76 (by decide) (fun c_76 => ?_) (fun c_76 => ?_)
        · exact absurd (by rw [m2, ho]) c_76
        · refine lv_aload_n hx hb dL_isMarked_79 rfl (lv_at hl 4 rfl) ?_
          refine lv_iload_n hx hb dL_isMarked_80 rfl (lv_at hl 5 rfl) ?_
          refine okE_I (rx_placeOf hi) (rd_placeOf hi) rfl (runT_V (As := [.int (nI i)]) (rest := []) C (k_X5_placeOf l hfl D cy z o d σ1 τ (rfl : kd 0 = 5) (nI i)) hP hS cw_X5_placeOf (mA2 (i := 198) rfl rfl) (rfl : kd 0 = 5) ⟨Nat.le_of_ble_eq_true rfl, Nat.le_of_ble_eq_true rfl⟩ rfl (Nat.le_of_ble_eq_true rfl) hl.1 (tcc_0 (rx_placeOf hi) ⟨Nat.zero_le _, Nat.zero_le _⟩) dL_isMarked_81) hS (fun H locs hP hS => ?_)
          refine lv_if_ne (tgt := 99) hx hb dL_isMarked_84 (by decide) (fun c_84 => ?_) (fun c_84 => ?_)
          · exact absurd mp0 c_84
          · refine lv_aload_n hx hb dL_isMarked_87 rfl (lv_at hl 4 rfl) ?_
            refine lv_iload_n hx hb dL_isMarked_88 rfl (lv_at hl 5 rfl) ?_
            refine okE_I nx (nf.trans nf0) hs2 (runT_V (As := [.int (nI i)]) (rest := []) C (k_X5_meetMark l hfl D cy z o d σ1 τ (rfl : kd 0 = 5) (nI i)) hP hS cw_X5_meetMark (mA2 (i := 217) rfl rfl) (rfl : kd 0 = 5) ⟨Nat.le_of_ble_eq_true rfl, Nat.le_of_ble_eq_true rfl⟩ rfl (Nat.le_of_ble_eq_true rfl) hl.1 (tcc_0 nx ⟨Nat.zero_le _, Nat.zero_le _⟩) dL_isMarked_89) hS (fun H locs hP hS => ?_)
            refine lv_if_ne (tgt := 99) hx hb dL_isMarked_92 (by decide) (fun c_92 => ?_) (fun c_92 => ?_)
            · exact absurd rfl c_92
            · refine lv_iconst (v := 1) hx hb dL_isMarked_95 (by decide) ?_
              refine lv_goto (tgt := 100) hx hb dL_isMarked_96 (by decide) ?_
              exact ret_I C hP hS nar_z1 rfl rfl rfl rfl dL_isMarked_100
  · refine lv_iload_n hx hb dL_isMarked_29 rfl (lv_at hl 2 rfl) ?_
    refine lv_goto (tgt := 39) hx hb dL_isMarked_30 (by decide) ?_
    have ho : f_X4_passMark σ (1 + 1 + 3 * i) (σ 1 5) = f_X4_placeIn σ (1 + 1 + 3 * i) (σ 1 5) := by unfold f_X4_passMark; exact if_neg c_26
    refine lv_istore (lv' := [(5, .int (f_X4_placeIn σ (1 + 1 + 3 * i) (σ 1 5))), (4, .int (σ (1 + 1 + 3 * i) 2)), (3, .int (σ (1 + 1 + 3 * i) 9)), (2, .int (f_X4_placeIn σ (1 + 1 + 3 * i) (σ 1 5))), (0, .ref (z + 0)), (1, .int (nI i))]) hx hb dL_isMarked_39 hl (by decide) rfl (fun ls hl => ?_)
    refine lv_aload_n hx hb dL_isMarked_41 rfl (lv_at hl 4 rfl) ?_
    refine lv_iload_n hx hb dL_isMarked_42 rfl (lv_at hl 5 rfl) ?_
    refine okE_I mx (mf.trans ho) hs1 (runT_V (As := [.int (nI i)]) (rest := []) C (k_X5_meetMark l hfl D cy z o d σ τ (rfl : kd 0 = 5) (nI i)) hP hS cw_X5_meetMark (mA2 (i := 217) rfl rfl) (rfl : kd 0 = 5) ⟨Nat.le_of_ble_eq_true rfl, Nat.le_of_ble_eq_true rfl⟩ rfl (Nat.le_of_ble_eq_true rfl) hl.1 (tcc_0 mx ⟨Nat.zero_le _, Nat.zero_le _⟩) dL_isMarked_43) hS (fun H locs hP hS => ?_)
    refine lv_iload hx hb dL_isMarked_46 (lv_at hl 0 rfl) ?_
    refine lv_icmp_ne (tgt := 99) hx hb dL_isMarked_48 (by decide) (fun c_48 => ?_) (fun c_48 => ?_)
    · exact absurd rfl c_48
    · refine lv_aload_n hx hb dL_isMarked_51 rfl (lv_at hl 4 rfl) ?_
      refine lv_iload_n hx hb dL_isMarked_52 rfl (lv_at hl 5 rfl) ?_
      refine okE_I (rx_slipsOf hi) (rd_slipsOf hi) rfl (runT_V (As := [.int (nI i)]) (rest := []) C (k_X5_slipsOf l hfl D cy z o d σ1 τ (rfl : kd 0 = 5) (nI i)) hP hS cw_X5_slipsOf (mA2 (i := 209) rfl rfl) (rfl : kd 0 = 5) ⟨Nat.le_of_ble_eq_true rfl, Nat.le_of_ble_eq_true rfl⟩ rfl (Nat.le_of_ble_eq_true rfl) hl.1 (tcc_0 (rx_slipsOf hi) ⟨Nat.zero_le _, Nat.zero_le _⟩) dL_isMarked_53) hS (fun H locs hP hS => ?_)
      refine lv_iload_n hx hb dL_isMarked_56 rfl (lv_at hl 2 rfl) ?_
      refine lv_iload hx hb dL_isMarked_57 (lv_at hl 0 rfl) ?_
      refine thnE_I rfl rfl (run_S (As := [.int (f_X4_placeIn σ (1 + 1 + 3 * i) (σ 1 5))]) (rest := [.int (σ (1 + 1 + 3 * i) 9), .int (σ1 (1 + 1 + 3 * i) 9)]) C (k_L_size l D cy z o d σ1 τ (f_X4_placeIn σ (1 + 1 + 3 * i) (σ 1 5))) hP hS cw_L_size (mA2 (i := 169) rfl rfl) ⟨rfl, rfl⟩ ⟨Nat.le_of_ble_eq_true rfl, Nat.le_of_ble_eq_true rfl⟩ rfl (Nat.le_of_ble_eq_true rfl) hl.1 ⟨Nat.zero_le _, Nat.zero_le _⟩ dL_isMarked_59) hS (fun H locs hP hS => ?_)
      refine lv_iadd hx hb dL_isMarked_62 ?_
      refine lv_icmp_ne (tgt := 99) hx hb dL_isMarked_63 (by decide) (fun c_63 => ?_) (fun c_63 => ?_)
      · exact absurd (by rw [m9, ho, size_ab]) c_63
      · refine lv_aload_n hx hb dL_isMarked_66 rfl (lv_at hl 4 rfl) ?_
        refine lv_iload_n hx hb dL_isMarked_67 rfl (lv_at hl 5 rfl) ?_
        refine okE_I (rx_positionOf hi) (rd_positionOf hi) rfl (runT_V (As := [.int (nI i)]) (rest := []) C (k_X5_positionOf l hfl D cy z o d σ1 τ (rfl : kd 0 = 5) (nI i)) hP hS cw_X5_positionOf (mA2 (i := 64) rfl rfl) (rfl : kd 0 = 5) ⟨Nat.le_of_ble_eq_true rfl, Nat.le_of_ble_eq_true rfl⟩ rfl (Nat.le_of_ble_eq_true rfl) hl.1 (tcc_0 (rx_positionOf hi) ⟨Nat.zero_le _, Nat.zero_le _⟩) dL_isMarked_68) hS (fun H locs hP hS => ?_)
        refine lv_iload hx hb dL_isMarked_71 (lv_at hl 1 rfl) ?_
        refine lv_iload hx hb dL_isMarked_73 (lv_at hl 0 rfl) ?_
        refine lv_isub hx hb dL_isMarked_75 ?_
        refine lv_icmp_ne (tgt := 99) hx hb dL_isMarked_76 (by decide) (fun c_76 => ?_) (fun c_76 => ?_)
        · exact absurd (by rw [m2, ho]) c_76
        · refine lv_aload_n hx hb dL_isMarked_79 rfl (lv_at hl 4 rfl) ?_
          refine lv_iload_n hx hb dL_isMarked_80 rfl (lv_at hl 5 rfl) ?_
          refine okE_I (rx_placeOf hi) (rd_placeOf hi) rfl (runT_V (As := [.int (nI i)]) (rest := []) C (k_X5_placeOf l hfl D cy z o d σ1 τ (rfl : kd 0 = 5) (nI i)) hP hS cw_X5_placeOf (mA2 (i := 198) rfl rfl) (rfl : kd 0 = 5) ⟨Nat.le_of_ble_eq_true rfl, Nat.le_of_ble_eq_true rfl⟩ rfl (Nat.le_of_ble_eq_true rfl) hl.1 (tcc_0 (rx_placeOf hi) ⟨Nat.zero_le _, Nat.zero_le _⟩) dL_isMarked_81) hS (fun H locs hP hS => ?_)
          refine lv_if_ne (tgt := 99) hx hb dL_isMarked_84 (by decide) (fun c_84 => ?_) (fun c_84 => ?_)
          · exact absurd mp0 c_84
          · refine lv_aload_n hx hb dL_isMarked_87 rfl (lv_at hl 4 rfl) ?_
            refine lv_iload_n hx hb dL_isMarked_88 rfl (lv_at hl 5 rfl) ?_
            refine okE_I nx (nf.trans nf0) hs2 (runT_V (As := [.int (nI i)]) (rest := []) C (k_X5_meetMark l hfl D cy z o d σ1 τ (rfl : kd 0 = 5) (nI i)) hP hS cw_X5_meetMark (mA2 (i := 217) rfl rfl) (rfl : kd 0 = 5) ⟨Nat.le_of_ble_eq_true rfl, Nat.le_of_ble_eq_true rfl⟩ rfl (Nat.le_of_ble_eq_true rfl) hl.1 (tcc_0 nx ⟨Nat.zero_le _, Nat.zero_le _⟩) dL_isMarked_89) hS (fun H locs hP hS => ?_)
            refine lv_if_ne (tgt := 99) hx hb dL_isMarked_92 (by decide) (fun c_92 => ?_) (fun c_92 => ?_)
            · exact absurd rfl c_92
            · refine lv_iconst (v := 1) hx hb dL_isMarked_95 (by decide) ?_
              refine lv_goto (tgt := 100) hx hb dL_isMarked_96 (by decide) ?_
              exact ret_I C hP hS nar_z1 rfl rfl rfl rfl dL_isMarked_100
theorem marked_gn {σ : Sg} {B i : Nat} (h : GN B σ) (hi : i < 4) (hB : B + 40000 ≤ 1000000000) : GN (B + 2000) (s_X5_meetMark (s_X5_meetMark σ 0 (nI i)) 0 (nI i)) := (mark_ok (mark_ok h hi (by omega)).2.2.1 hi (by omega)).2.2.1
end
section
/-! the law's isBack -/
theorem ps_step {E : Nat → Nat → Int32} {L a : Nat} {x t : Int32} (h : x + PS E (L - a) = t) (ha : a < L) : x + E (L - 1 - a) 0 + PS E (L - (a + 1)) = t := by
  rw [show L - a = (L - 1 - a) + 1 by omega] at h
  rw [show L - (a + 1) = L - 1 - a by omega, ← h]
  show _ = x + (PS E (L - 1 - a) + E (L - 1 - a) 0)
  grind
theorem pa_step {E : Nat → Nat → Int32} {L a : Nat} {x t : Int32} (h : x + PA E (L - a) = t) (ha : a < L) : x + f_L_size (E (L - 1 - a) 0) + PA E (L - (a + 1)) = t := by
  rw [show L - a = (L - 1 - a) + 1 by omega] at h
  rw [show L - (a + 1) = L - 1 - a by omega, ← h, size_ab]
  show _ = x + (PA E (L - 1 - a) + ab (E (L - 1 - a) 0))
  grind
theorem ps_init {E : Nat → Nat → Int32} {L f : Nat} (h : f ≤ L) : 0 + PS E (L - (L - f)) = PS E f := by
  rw [show L - (L - f) = f by omega]
  exact Int32.zero_add _
theorem pa_init {E : Nat → Nat → Int32} {L f : Nat} (h : f ≤ L) : 0 + PA E (L - (L - f)) = PA E f := by
  rw [show L - (L - f) = f by omega]
  exact Int32.zero_add _
theorem ps_end {P : Nat → Int32} {L a : Nat} {x t : Int32} (h : x + P (L - a) = t) (ha : L ≤ a) (h0 : P 0 = 0 := by rfl) : x = t := by
  rw [show L - a = 0 by omega, h0, Int32.add_zero] at h
  exact h
theorem cw_L_isBack : cwSt yL_isBack cL_isBack 9 (some .boolean) 3 := ⟨(mA3 (i := 32) rfl rfl), (mA1 (i := 0) rfl rfl), (mA3 (i := 33) rfl rfl), by decide +kernel⟩
abbrev rm_L_isBack : Room := { frames := 8, cells := 0, slots := 0, locals := 126 }
set_option maxHeartbeats 4000000 in
set_option maxRecDepth 100000 in
theorem lpK_L_isBack {p : Program} {l : Launch} {e : Env} {s : State} {m : MethodId} {args : Array Value} {below : List Frame} {meth : Method} {c : Code} {D : va_G} {cy : Nat → ClassId} {z : Nat} (C : Bd p s m args meth c cL_isBack 9 (some .boolean) RL D cy z) (o : Int64) (d : UInt64) {τ : Sg} (hfl : l.stackTraces = false) {σ σ1 : Sg} {B i L f : Nat} {E : Nat → Nat → Int32} (h : GN B σ) (hN : SnN σ (1 + 1 + 3 * i) E L B) (hi : i < 4) (hL9 : L ≤ 16) (hl9 : σ (1 + 1 + 3 * i + 1) 2 = nI L) (hfL : f ≤ L) (bx : x_X5_goBack σ 0 (nI i) (nI f) = 0) (bf : f_X5_goBack σ 0 (nI i) (nI f) = σ1 (1 + 1 + 3 * i) 2) (b2 : σ1 (1 + 1 + 3 * i) 2 = σ (1 + 1 + 3 * i) 2 - PS E f) (hs1 : s_X5_goBack σ 0 (nI i) (nI f) = σ1) (bl : σ1 (1 + 1 + 3 * i + 1) 2 = nI (L - f)) (b10 : σ1 (1 + 1 + 3 * i) 10 = σ (1 + 1 + 3 * i) 10 + PA E f) (b8 : σ1 (1 + 1 + 3 * i) 8 = σ (1 + 1 + 3 * i) 8) :
    ∀ (n : Nat) (x4 : Int32) (x5 : Int32) (a : Nat) (H : Heap) (locs : List Loc), (x4 + PS E (L - a) = PS E f) → (x5 + PA E (L - a) = PA E f) → (a ≤ L ∧ L - f ≤ a ∧ L + 1 ≤ a + n) → WP D cy z σ τ o d H → va_S (fz z) s.heap H locs → ∀ ls : Array Slot, lv_has ls 9 [(0, .ref (z + 0)), (1, .int (nI i)), (2, .int (nI f)), (3, .int (nI L)), (4, .int x4), (5, .int x5), (6, .int (nI a))] → W p l e rm_L_isBack s m args below meth c H locs 0 0 (MQ below (PoI D cy z o d 1 σ1 τ) args s 0 0 (fz z)) (F0 m 17 ls []) := by
  obtain ⟨hx, hb, hr, hml, hown, hW, hlocks, hAm⟩ := id C
  intro n
  induction n with
  | zero =>
    intro x4 x5 a H locs hp9 hq9 hn9 hP hS ls hl
    exact absurd hn9 (by omega)
  | succ n ih =>
    intro x4 x5 a H locs hp9 hq9 hn9 hP hS ls hl
    refine lv_iload hx hb dL_isBack_17 (lv_at hl 6 rfl) ?_
    refine lv_iload_n hx hb dL_isBack_19 rfl (lv_at hl 3 rfl) ?_
    refine lv_icmp_ge (tgt := 56) hx hb dL_isBack_20 (by decide) (fun c_20 => ?_) (fun c_20 => ?_)
    · have d_20 : L ≤ a := (cI_le rfl rfl (by omega) (by omega)).mp c_20
      refine lv_aload_n hx hb dL_isBack_56 rfl (lv_at hl 0 rfl) ?_
      refine lv_iload_n hx hb dL_isBack_57 rfl (lv_at hl 1 rfl) ?_
      refine okE_I (rx_positionOf hi) (rd_positionOf hi) rfl (runT_V (As := [.int (nI i)]) (rest := []) C (k_X5_positionOf l hfl D cy z o d σ τ (rfl : kd 0 = 5) (nI i)) hP hS cw_X5_positionOf (mA2 (i := 64) rfl rfl) (rfl : kd 0 = 5) ⟨Nat.le_of_ble_eq_true rfl, Nat.le_of_ble_eq_true rfl⟩ rfl (Nat.le_of_ble_eq_true rfl) hl.1 (tcc_0 (rx_positionOf hi) ⟨Nat.zero_le _, Nat.zero_le _⟩) dL_isBack_58) hS (fun H locs hP hS => ?_)
      refine lv_istore (lv' := [(6, .int (σ (1 + 1 + 3 * i) 2)), (0, .ref (z + 0)), (1, .int (nI i)), (2, .int (nI f)), (3, .int (nI L)), (4, .int x4), (5, .int x5)]) hx hb dL_isBack_61 hl (by decide) rfl (fun ls hl => ?_)
      refine lv_aload_n hx hb dL_isBack_63 rfl (lv_at hl 1 rfl) ?_
      refine lv_iload_n hx hb dL_isBack_64 rfl (lv_at hl 2 rfl) ?_
      refine okE_I (rx_distanceOf hi) (rd_distanceOf hi) rfl (runT_V (As := [.int (nI i)]) (rest := []) C (k_X5_distanceOf l hfl D cy z o d σ τ (rfl : kd 0 = 5) (nI i)) hP hS cw_X5_distanceOf (mA2 (i := 88) rfl rfl) (rfl : kd 0 = 5) ⟨Nat.le_of_ble_eq_true rfl, Nat.le_of_ble_eq_true rfl⟩ rfl (Nat.le_of_ble_eq_true rfl) hl.1 (tcc_0 (rx_distanceOf hi) ⟨Nat.zero_le _, Nat.zero_le _⟩) dL_isBack_65) hS (fun H locs hP hS => ?_)
      refine lv_istore (lv' := [(7, .int (σ (1 + 1 + 3 * i) 10)), (6, .int (σ (1 + 1 + 3 * i) 2)), (0, .ref (z + 0)), (1, .int (nI i)), (2, .int (nI f)), (3, .int (nI L)), (4, .int x4), (5, .int x5)]) hx hb dL_isBack_68 hl (by decide) rfl (fun ls hl => ?_)
      refine lv_aload_n hx hb dL_isBack_70 rfl (lv_at hl 2 rfl) ?_
      refine lv_iload_n hx hb dL_isBack_71 rfl (lv_at hl 3 rfl) ?_
      refine okE_I (rx_errorsOf hi) (rd_errorsOf hi) rfl (runT_V (As := [.int (nI i)]) (rest := []) C (k_X5_errorsOf l hfl D cy z o d σ τ (rfl : kd 0 = 5) (nI i)) hP hS cw_X5_errorsOf (mA2 (i := 84) rfl rfl) (rfl : kd 0 = 5) ⟨Nat.le_of_ble_eq_true rfl, Nat.le_of_ble_eq_true rfl⟩ rfl (Nat.le_of_ble_eq_true rfl) hl.1 (tcc_0 (rx_errorsOf hi) ⟨Nat.zero_le _, Nat.zero_le _⟩) dL_isBack_72) hS (fun H locs hP hS => ?_)
      refine lv_istore (lv' := [(8, .int (σ (1 + 1 + 3 * i) 8)), (7, .int (σ (1 + 1 + 3 * i) 10)), (6, .int (σ (1 + 1 + 3 * i) 2)), (0, .ref (z + 0)), (1, .int (nI i)), (2, .int (nI f)), (3, .int (nI L)), (4, .int x4), (5, .int x5)]) hx hb dL_isBack_75 hl (by decide) rfl (fun ls hl => ?_)
      refine lv_aload_n hx hb dL_isBack_77 rfl (lv_at hl 3 rfl) ?_
      refine lv_iload_n hx hb dL_isBack_78 rfl (lv_at hl 4 rfl) ?_
      refine lv_iload_n hx hb dL_isBack_79 rfl (lv_at hl 5 rfl) ?_
      refine okE_I bx (bf.trans b2) hs1 (runT_V (As := [.int (nI i), .int (nI f)]) (rest := []) C (k_X5_goBack l hfl D cy z o d σ τ (rfl : kd 0 = 5) (nI i) (nI f) h.2.2.2) hP hS cw_X5_goBack (mA2 (i := 233) rfl rfl) (rfl : kd 0 = 5) ⟨Nat.le_of_ble_eq_true rfl, Nat.le_of_ble_eq_true rfl⟩ rfl (Nat.le_of_ble_eq_true rfl) hl.1 (tcc_0 bx ⟨Nat.zero_le _, Nat.zero_le _⟩) dL_isBack_80) hS (fun H locs hP hS => ?_)
      refine lv_iload hx hb dL_isBack_83 (lv_at hl 2 rfl) ?_
      refine lv_iload hx hb dL_isBack_85 (lv_at hl 7 rfl) ?_
      refine lv_isub hx hb dL_isBack_87 ?_
      refine lv_icmp_ne (tgt := 129) hx hb dL_isBack_88 (by decide) (fun c_88 => ?_) (fun c_88 => ?_)
      · exact absurd (by rw [ps_end hp9 d_20]) c_88
      · refine lv_aload_n hx hb dL_isBack_91 rfl (lv_at hl 3 rfl) ?_
        refine lv_iload_n hx hb dL_isBack_92 rfl (lv_at hl 4 rfl) ?_
        refine okE_I (rx_logLength hi) (rd_logLength hi) rfl (runT_V (As := [.int (nI i)]) (rest := []) C (k_X5_logLength l hfl D cy z o d σ1 τ (rfl : kd 0 = 5) (nI i)) hP hS cw_X5_logLength (mA2 (i := 72) rfl rfl) (rfl : kd 0 = 5) ⟨Nat.le_of_ble_eq_true rfl, Nat.le_of_ble_eq_true rfl⟩ rfl (Nat.le_of_ble_eq_true rfl) hl.1 (tcc_0 (rx_logLength hi) ⟨Nat.zero_le _, Nat.zero_le _⟩) dL_isBack_93) hS (fun H locs hP hS => ?_)
        refine lv_iload_n hx hb dL_isBack_96 rfl (lv_at hl 6 rfl) ?_
        refine lv_iload_n hx hb dL_isBack_97 rfl (lv_at hl 5 rfl) ?_
        refine lv_isub hx hb dL_isBack_98 ?_
        refine lv_icmp_ne (tgt := 129) hx hb dL_isBack_99 (by decide) (fun c_99 => ?_) (fun c_99 => ?_)
        · exact absurd (by rw [bl]; exact (pk_sub hfL).symm) c_99
        · refine lv_aload_n hx hb dL_isBack_102 rfl (lv_at hl 3 rfl) ?_
          refine lv_iload_n hx hb dL_isBack_103 rfl (lv_at hl 4 rfl) ?_
          refine okE_I (rx_distanceOf hi) (rd_distanceOf hi) rfl (runT_V (As := [.int (nI i)]) (rest := []) C (k_X5_distanceOf l hfl D cy z o d σ1 τ (rfl : kd 0 = 5) (nI i)) hP hS cw_X5_distanceOf (mA2 (i := 88) rfl rfl) (rfl : kd 0 = 5) ⟨Nat.le_of_ble_eq_true rfl, Nat.le_of_ble_eq_true rfl⟩ rfl (Nat.le_of_ble_eq_true rfl) hl.1 (tcc_0 (rx_distanceOf hi) ⟨Nat.zero_le _, Nat.zero_le _⟩) dL_isBack_104) hS (fun H locs hP hS => ?_)
          refine lv_iload hx hb dL_isBack_107 (lv_at hl 1 rfl) ?_
          refine lv_iload hx hb dL_isBack_109 (lv_at hl 8 rfl) ?_
          refine lv_iadd hx hb dL_isBack_111 ?_
          refine lv_icmp_ne (tgt := 129) hx hb dL_isBack_112 (by decide) (fun c_112 => ?_) (fun c_112 => ?_)
          · exact absurd (by rw [b10, ps_end hq9 d_20]) c_112
          · refine lv_aload_n hx hb dL_isBack_115 rfl (lv_at hl 3 rfl) ?_
            refine lv_iload_n hx hb dL_isBack_116 rfl (lv_at hl 4 rfl) ?_
            refine okE_I (rx_errorsOf hi) (rd_errorsOf hi) rfl (runT_V (As := [.int (nI i)]) (rest := []) C (k_X5_errorsOf l hfl D cy z o d σ1 τ (rfl : kd 0 = 5) (nI i)) hP hS cw_X5_errorsOf (mA2 (i := 84) rfl rfl) (rfl : kd 0 = 5) ⟨Nat.le_of_ble_eq_true rfl, Nat.le_of_ble_eq_true rfl⟩ rfl (Nat.le_of_ble_eq_true rfl) hl.1 (tcc_0 (rx_errorsOf hi) ⟨Nat.zero_le _, Nat.zero_le _⟩) dL_isBack_117) hS (fun H locs hP hS => ?_)
            refine lv_iload hx hb dL_isBack_120 (lv_at hl 0 rfl) ?_
            refine lv_icmp_ne (tgt := 129) hx hb dL_isBack_122 (by decide) (fun c_122 => ?_) (fun c_122 => ?_)
            · exact absurd b8 c_122
            · refine lv_iconst (v := 1) hx hb dL_isBack_125 (by decide) ?_
              refine lv_goto (tgt := 130) hx hb dL_isBack_126 (by decide) ?_
              exact ret_I C hP hS nar_z1 rfl rfl rfl rfl dL_isBack_130
    · have d_20 : ¬ (L ≤ a) := fun h9 => c_20 ((cI_le rfl rfl (by omega) (by omega)).mpr h9)
      refine lv_iload hx hb dL_isBack_23 (lv_at hl 4 rfl) ?_
      refine lv_aload_n hx hb dL_isBack_25 rfl (lv_at hl 0 rfl) ?_
      refine lv_iload_n hx hb dL_isBack_26 rfl (lv_at hl 1 rfl) ?_
      refine lv_iload hx hb dL_isBack_27 (lv_at hl 6 rfl) ?_
      refine okE_I (rx_loggedStep hi hL9 hl9 (by omega)) (rd_loggedStep hi hN (by omega)) rfl (runT_V (As := [.int (nI i), .int (nI a)]) (rest := [.int x4]) C (k_X5_loggedStep l hfl D cy z o d σ τ (rfl : kd 0 = 5) (nI i) (nI a)) hP hS cw_X5_loggedStep (mA2 (i := 172) rfl rfl) (rfl : kd 0 = 5) ⟨Nat.le_of_ble_eq_true rfl, Nat.le_of_ble_eq_true rfl⟩ rfl (Nat.le_of_ble_eq_true rfl) hl.1 (tcc_0 (rx_loggedStep hi hL9 hl9 (by omega)) ⟨Nat.zero_le _, Nat.zero_le _⟩) dL_isBack_29) hS (fun H locs hP hS => ?_)
      refine lv_iadd hx hb dL_isBack_32 ?_
      refine lv_istore (lv' := [(4, .int (x4 + (E (L - 1 - a) 0))), (0, .ref (z + 0)), (1, .int (nI i)), (2, .int (nI f)), (3, .int (nI L)), (5, .int x5), (6, .int (nI a))]) hx hb dL_isBack_33 hl (by decide) rfl (fun ls hl => ?_)
      refine lv_iload hx hb dL_isBack_35 (lv_at hl 5 rfl) ?_
      refine lv_aload_n hx hb dL_isBack_37 rfl (lv_at hl 1 rfl) ?_
      refine lv_iload_n hx hb dL_isBack_38 rfl (lv_at hl 2 rfl) ?_
      refine lv_iload hx hb dL_isBack_39 (lv_at hl 6 rfl) ?_
      refine okE_I (rx_loggedStep hi hL9 hl9 (by omega)) (rd_loggedStep hi hN (by omega)) rfl (runT_V (As := [.int (nI i), .int (nI a)]) (rest := [.int x5]) C (k_X5_loggedStep l hfl D cy z o d σ τ (rfl : kd 0 = 5) (nI i) (nI a)) hP hS cw_X5_loggedStep (mA2 (i := 172) rfl rfl) (rfl : kd 0 = 5) ⟨Nat.le_of_ble_eq_true rfl, Nat.le_of_ble_eq_true rfl⟩ rfl (Nat.le_of_ble_eq_true rfl) hl.1 (tcc_0 (rx_loggedStep hi hL9 hl9 (by omega)) ⟨Nat.zero_le _, Nat.zero_le _⟩) dL_isBack_41) hS (fun H locs hP hS => ?_)
      refine thnE_I rfl rfl (run_S (As := [.int (E (L - 1 - a) 0)]) (rest := [.int x5]) C (k_L_size l D cy z o d σ τ (E (L - 1 - a) 0)) hP hS cw_L_size (mA2 (i := 169) rfl rfl) ⟨rfl, rfl⟩ ⟨Nat.le_of_ble_eq_true rfl, Nat.le_of_ble_eq_true rfl⟩ rfl (Nat.le_of_ble_eq_true rfl) hl.1 ⟨Nat.zero_le _, Nat.zero_le _⟩ dL_isBack_44) hS (fun H locs hP hS => ?_)
      refine lv_iadd hx hb dL_isBack_47 ?_
      refine lv_istore (lv' := [(5, .int (x5 + (f_L_size (E (L - 1 - a) 0)))), (4, .int (x4 + (E (L - 1 - a) 0))), (0, .ref (z + 0)), (1, .int (nI i)), (2, .int (nI f)), (3, .int (nI L)), (6, .int (nI a))]) hx hb dL_isBack_48 hl (by decide) rfl (fun ls hl => ?_)
      refine lv_iinc (v := nI (a + 1)) (lv' := [(6, .int (nI (a + 1))), (5, .int (x5 + (f_L_size (E (L - 1 - a) 0)))), (4, .int (x4 + (E (L - 1 - a) 0))), (0, .ref (z + 0)), (1, .int (nI i)), (2, .int (nI f)), (3, .int (nI L))]) hx hb dL_isBack_50 hl (k := 6) rfl (nI_1 a) (by decide) rfl (fun ls hl => ?_)
      refine lv_goto (tgt := 17) hx hb dL_isBack_53 (by decide) ?_
      exact ih (x4 + (E (L - 1 - a) 0)) (x5 + (f_L_size (E (L - 1 - a) 0))) (a + 1) _ _ (ps_step hp9 (by omega)) (pa_step hq9 (by omega)) ⟨by omega, by omega, by omega⟩ hP hS ls (lv_sub hl [3, 4, 5, 6, 2, 1, 0] rfl)
set_option maxHeartbeats 4000000 in
set_option maxRecDepth 100000 in
theorem k_L_isBack (l : Launch) (hfl : l.stackTraces = false) (D : va_G) (cy : Nat → ClassId) (z : Nat) (o : Int64) (d : UInt64) (τ : Sg) {σ : Sg} {B i L f : Nat} {E : Nat → Nat → Int32} (h : GN B σ) (hN : SnN σ (1 + 1 + 3 * i) E L B) (hi : i < 4) (hf1 : 1 ≤ f) (hfL : f ≤ L) (hB : B + 20000 ≤ 1000000000) : KI l yL_isBack cL_isBack 9 (some .boolean) rm_L_isBack D cy z [.ref (z + 0), .int (nI i), .int (nI f)] o d σ τ 1 (s_X5_goBack σ 0 (nI i) (nI f)) τ := by
  refine met_of RL (plainFor_of_name (by decide)) rfl (Nat.le_of_ble_eq_true rfl) ?_
  intro p e s m args below meth c C hP hS ls hl
  obtain ⟨hx, hb, hr, hml, hown, hW, hlocks, hAm⟩ := id C
  have hl : lv_has ls 9 [(0, .ref (z + 0)), (1, .int (nI i)), (2, .int (nI f))] := hl
  obtain ⟨bx, bf, bG, bS, b2, b10, b8, -⟩ := back_ok h hN hi hf1 hfL hB
  have hl9 : σ (1 + 1 + 3 * i + 1) 2 = nI L := hN.2.2.2.2.choose_spec.2.2.1
  have hL9 : L ≤ 16 := hN.2.2.2.2.choose_spec.1
  generalize hs1 : s_X5_goBack σ 0 (nI i) (nI f) = σ1 at bf bG bS b2 b10 b8 ⊢
  have bl : σ1 (1 + 1 + 3 * i + 1) 2 = nI (L - f) := bS.2.2.2.2.choose_spec.2.2.1
  refine lv_aload_n hx hb dL_isBack_0 rfl (lv_at hl 0 rfl) ?_
  refine lv_iload_n hx hb dL_isBack_1 rfl (lv_at hl 1 rfl) ?_
  refine okE_I (rx_logLength hi) (rd_logLength hi) rfl (runT_V (As := [.int (nI i)]) (rest := []) C (k_X5_logLength l hfl D cy z o d σ τ (rfl : kd 0 = 5) (nI i)) hP hS cw_X5_logLength (mA2 (i := 72) rfl rfl) (rfl : kd 0 = 5) ⟨Nat.le_of_ble_eq_true rfl, Nat.le_of_ble_eq_true rfl⟩ rfl (Nat.le_of_ble_eq_true rfl) hl.1 (tcc_0 (rx_logLength hi) ⟨Nat.zero_le _, Nat.zero_le _⟩) dL_isBack_2) hS (fun H locs hP hS => ?_)
  rw [hl9]
  refine lv_istore_n (lv' := [(3, .int (nI L)), (0, .ref (z + 0)), (1, .int (nI i)), (2, .int (nI f))]) hx hb dL_isBack_5 rfl hl (by decide) rfl (fun ls hl => ?_)
  refine lv_iconst (v := 0) hx hb dL_isBack_6 (by decide) ?_
  refine lv_istore (lv' := [(4, .int 0), (3, .int (nI L)), (0, .ref (z + 0)), (1, .int (nI i)), (2, .int (nI f))]) hx hb dL_isBack_7 hl (by decide) rfl (fun ls hl => ?_)
  refine lv_iconst (v := 0) hx hb dL_isBack_9 (by decide) ?_
  refine lv_istore (lv' := [(5, .int 0), (4, .int 0), (3, .int (nI L)), (0, .ref (z + 0)), (1, .int (nI i)), (2, .int (nI f))]) hx hb dL_isBack_10 hl (by decide) rfl (fun ls hl => ?_)
  refine lv_iload_n hx hb dL_isBack_12 rfl (lv_at hl 2 rfl) ?_
  refine lv_iload_n hx hb dL_isBack_13 rfl (lv_at hl 5 rfl) ?_
  refine lv_isub hx hb dL_isBack_14 ?_
  rw [pk_sub hfL]
  refine lv_istore (lv' := [(6, .int (nI (L - f))), (5, .int 0), (4, .int 0), (3, .int (nI L)), (0, .ref (z + 0)), (1, .int (nI i)), (2, .int (nI f))]) hx hb dL_isBack_15 hl (by decide) rfl (fun ls hl => ?_)
  exact lpK_L_isBack C o d hfl h hN hi hL9 hl9 hfL bx bf b2 hs1 bl b10 b8 (f + 1) 0 0 (L - f) _ _ (ps_init hfL) (pa_init hfL) ⟨by omega, by omega, by omega⟩ hP hS ls (lv_sub hl [4, 5, 6, 3, 2, 1, 0] rfl)
end

section
-- ===== PART A: goes FIRST, ahead of the names: the tables' words, and 'selects' of the private methods out of them =====
/-- a private method of a class that the tables say can be made, by its rows of tables_1 -/
def lw_okq (q : MethodName × Nat) : Prop := (q.1.cls ≠ "java/lang/invoke/MethodHandle" ∧ q.1.cls ≠ "java/lang/invoke/VarHandle") ∧ Cond.instantiable q.1.cls q.2 ∈ tables_1 ∧ Cond.privateMethod q.1 ∈ tables_1 ∧ Cond.instanceMethod q.1 ∈ tables_1
theorem lw_p0 : lw_okq (⟨"QuadSnail", "snailNumbered", "(I)LQuadSnail$Snail;"⟩, 6) := ⟨⟨by decide +kernel, by decide +kernel⟩, List.mem_of_getElem? (i := 16) (by decide +kernel), List.mem_of_getElem? (i := 266) (by decide +kernel), List.mem_of_getElem? (i := 267) (by decide +kernel)⟩
theorem lw_p1 : lw_okq (⟨"java/lang/Throwable", "fillInStackTrace", "(I)Ljava/lang/Throwable;"⟩, 6) := ⟨⟨by decide +kernel, by decide +kernel⟩, List.mem_of_getElem? (i := 308) (by decide +kernel), List.mem_of_getElem? (i := 306) (by decide +kernel), List.mem_of_getElem? (i := 307) (by decide +kernel)⟩
theorem lw_p2 : lw_okq (⟨"QuadSnail$Records", "latest", "()LQuadSnail$Garden;"⟩, 6) := ⟨⟨by decide +kernel, by decide +kernel⟩, List.mem_of_getElem? (i := 126) (by decide +kernel), List.mem_of_getElem? (i := 400) (by decide +kernel), List.mem_of_getElem? (i := 401) (by decide +kernel)⟩
theorem lw_p3 : lw_okq (⟨"QuadSnail$Log", "rowOf", "(I)I"⟩, 3) := ⟨⟨by decide +kernel, by decide +kernel⟩, List.mem_of_getElem? (i := 36) (by decide +kernel), List.mem_of_getElem? (i := 413) (by decide +kernel), List.mem_of_getElem? (i := 414) (by decide +kernel)⟩
theorem lw_p4 : lw_okq (⟨"QuadSnail$Log", "write", "(II)V"⟩, 3) := ⟨⟨by decide +kernel, by decide +kernel⟩, List.mem_of_getElem? (i := 36) (by decide +kernel), List.mem_of_getElem? (i := 417) (by decide +kernel), List.mem_of_getElem? (i := 418) (by decide +kernel)⟩
theorem lw_p5 : lw_okq (⟨"QuadSnail$Snail", "move", "(III)V"⟩, 12) := ⟨⟨by decide +kernel, by decide +kernel⟩, List.mem_of_getElem? (i := 30) (by decide +kernel), List.mem_of_getElem? (i := 421) (by decide +kernel), List.mem_of_getElem? (i := 422) (by decide +kernel)⟩
theorem lw_p6 : lw_okq (⟨"QuadSnail$Snail", "book", "(II)V"⟩, 12) := ⟨⟨by decide +kernel, by decide +kernel⟩, List.mem_of_getElem? (i := 30) (by decide +kernel), List.mem_of_getElem? (i := 425) (by decide +kernel), List.mem_of_getElem? (i := 426) (by decide +kernel)⟩
theorem lw_p7 : lw_okq (⟨"QuadSnail$Log", "read", "(II)I"⟩, 3) := ⟨⟨by decide +kernel, by decide +kernel⟩, List.mem_of_getElem? (i := 36) (by decide +kernel), List.mem_of_getElem? (i := 473) (by decide +kernel), List.mem_of_getElem? (i := 474) (by decide +kernel)⟩
theorem lw_p8 : lw_okq (⟨"QuadSnail", "demandValidText", "()V"⟩, 6) := ⟨⟨by decide +kernel, by decide +kernel⟩, List.mem_of_getElem? (i := 16) (by decide +kernel), List.mem_of_getElem? (i := 530) (by decide +kernel), List.mem_of_getElem? (i := 531) (by decide +kernel)⟩
theorem lw_p9 : lw_okq (⟨"QuadSnail", "firstFailing", "(LQuadSnail$Garden;)I"⟩, 6) := ⟨⟨by decide +kernel, by decide +kernel⟩, List.mem_of_getElem? (i := 16) (by decide +kernel), List.mem_of_getElem? (i := 535) (by decide +kernel), List.mem_of_getElem? (i := 536) (by decide +kernel)⟩
theorem lw_p10 : lw_okq (⟨"QuadSnail", "follow", "(LQuadSnail$Garden;I)Z"⟩, 6) := ⟨⟨by decide +kernel, by decide +kernel⟩, List.mem_of_getElem? (i := 16) (by decide +kernel), List.mem_of_getElem? (i := 543) (by decide +kernel), List.mem_of_getElem? (i := 544) (by decide +kernel)⟩
theorem lw_p11 : lw_okq (⟨"QuadSnail", "feelAll", "(LQuadSnail$Snail;III)Z"⟩, 6) := ⟨⟨by decide +kernel, by decide +kernel⟩, List.mem_of_getElem? (i := 16) (by decide +kernel), List.mem_of_getElem? (i := 564) (by decide +kernel), List.mem_of_getElem? (i := 565) (by decide +kernel)⟩
theorem lw_p12 : lw_okq (⟨"QuadSnailModel", "isThere", "(I)Z"⟩, 12) := ⟨⟨by decide +kernel, by decide +kernel⟩, List.mem_of_getElem? (i := 718) (by decide +kernel), List.mem_of_getElem? (i := 769) (by decide +kernel), List.mem_of_getElem? (i := 770) (by decide +kernel)⟩
theorem lw_p13 : lw_okq (⟨"QuadSnailModel", "throwing", "(I)I"⟩, 12) := ⟨⟨by decide +kernel, by decide +kernel⟩, List.mem_of_getElem? (i := 718) (by decide +kernel), List.mem_of_getElem? (i := 776) (by decide +kernel), List.mem_of_getElem? (i := 777) (by decide +kernel)⟩
theorem lw_p14 : lw_okq (⟨"QuadSnailModel", "canFeel", "(III)Z"⟩, 12) := ⟨⟨by decide +kernel, by decide +kernel⟩, List.mem_of_getElem? (i := 718) (by decide +kernel), List.mem_of_getElem? (i := 780) (by decide +kernel), List.mem_of_getElem? (i := 781) (by decide +kernel)⟩
theorem lw_p15 : lw_okq (⟨"QuadSnailModel", "of", "(II)I"⟩, 12) := ⟨⟨by decide +kernel, by decide +kernel⟩, List.mem_of_getElem? (i := 718) (by decide +kernel), List.mem_of_getElem? (i := 784) (by decide +kernel), List.mem_of_getElem? (i := 785) (by decide +kernel)⟩
def lw_privs_1 : List (MethodName × Nat) := [(⟨"QuadSnail", "snailNumbered", "(I)LQuadSnail$Snail;"⟩, 6), (⟨"java/lang/Throwable", "fillInStackTrace", "(I)Ljava/lang/Throwable;"⟩, 6), (⟨"QuadSnail$Records", "latest", "()LQuadSnail$Garden;"⟩, 6), (⟨"QuadSnail$Log", "rowOf", "(I)I"⟩, 3), (⟨"QuadSnail$Log", "write", "(II)V"⟩, 3), (⟨"QuadSnail$Snail", "move", "(III)V"⟩, 12), (⟨"QuadSnail$Snail", "book", "(II)V"⟩, 12), (⟨"QuadSnail$Log", "read", "(II)I"⟩, 3), (⟨"QuadSnail", "demandValidText", "()V"⟩, 6), (⟨"QuadSnail", "firstFailing", "(LQuadSnail$Garden;)I"⟩, 6), (⟨"QuadSnail", "follow", "(LQuadSnail$Garden;I)Z"⟩, 6), (⟨"QuadSnail", "feelAll", "(LQuadSnail$Snail;III)Z"⟩, 6), (⟨"QuadSnailModel", "isThere", "(I)Z"⟩, 12), (⟨"QuadSnailModel", "throwing", "(I)I"⟩, 12), (⟨"QuadSnailModel", "canFeel", "(III)Z"⟩, 12), (⟨"QuadSnailModel", "of", "(II)I"⟩, 12)]
theorem lw_r1 : ∀ q ∈ lw_privs_1, lw_okq q := List.forall_mem_cons.mpr ⟨lw_p0, List.forall_mem_cons.mpr ⟨lw_p1, List.forall_mem_cons.mpr ⟨lw_p2, List.forall_mem_cons.mpr ⟨lw_p3, List.forall_mem_cons.mpr ⟨lw_p4, List.forall_mem_cons.mpr ⟨lw_p5, List.forall_mem_cons.mpr ⟨lw_p6, List.forall_mem_cons.mpr ⟨lw_p7, List.forall_mem_cons.mpr ⟨lw_p8, List.forall_mem_cons.mpr ⟨lw_p9, List.forall_mem_cons.mpr ⟨lw_p10, List.forall_mem_cons.mpr ⟨lw_p11, List.forall_mem_cons.mpr ⟨lw_p12, List.forall_mem_cons.mpr ⟨lw_p13, List.forall_mem_cons.mpr ⟨lw_p14, List.forall_mem_cons.mpr ⟨lw_p15, fun _ h => absurd h List.not_mem_nil⟩⟩⟩⟩⟩⟩⟩⟩⟩⟩⟩⟩⟩⟩⟩⟩
theorem lw_p16 : lw_okq (⟨"QuadSnailModel", "stepOf", "(II)I"⟩, 12) := ⟨⟨by decide +kernel, by decide +kernel⟩, List.mem_of_getElem? (i := 718) (by decide +kernel), List.mem_of_getElem? (i := 789) (by decide +kernel), List.mem_of_getElem? (i := 790) (by decide +kernel)⟩
theorem lw_p17 : lw_okq (⟨"QuadSnailModel", "record", "()V"⟩, 12) := ⟨⟨by decide +kernel, by decide +kernel⟩, List.mem_of_getElem? (i := 718) (by decide +kernel), List.mem_of_getElem? (i := 802) (by decide +kernel), List.mem_of_getElem? (i := 803) (by decide +kernel)⟩
theorem lw_p18 : lw_okq (⟨"QuadSnailModel", "feels", "(III)I"⟩, 12) := ⟨⟨by decide +kernel, by decide +kernel⟩, List.mem_of_getElem? (i := 718) (by decide +kernel), List.mem_of_getElem? (i := 806) (by decide +kernel), List.mem_of_getElem? (i := 807) (by decide +kernel)⟩
theorem lw_p19 : lw_okq (⟨"QuadSnailModel", "grow", "(III)V"⟩, 12) := ⟨⟨by decide +kernel, by decide +kernel⟩, List.mem_of_getElem? (i := 718) (by decide +kernel), List.mem_of_getElem? (i := 810) (by decide +kernel), List.mem_of_getElem? (i := 811) (by decide +kernel)⟩
theorem lw_p20 : lw_okq (⟨"QuadSnailModel", "lay", "(III)V"⟩, 12) := ⟨⟨by decide +kernel, by decide +kernel⟩, List.mem_of_getElem? (i := 718) (by decide +kernel), List.mem_of_getElem? (i := 814) (by decide +kernel), List.mem_of_getElem? (i := 815) (by decide +kernel)⟩
theorem lw_p21 : lw_okq (⟨"QuadSnailModel", "turns", "(II)V"⟩, 12) := ⟨⟨by decide +kernel, by decide +kernel⟩, List.mem_of_getElem? (i := 718) (by decide +kernel), List.mem_of_getElem? (i := 821) (by decide +kernel), List.mem_of_getElem? (i := 822) (by decide +kernel)⟩
theorem lw_p22 : lw_okq (⟨"QuadSnailModel", "meets", "(I)I"⟩, 12) := ⟨⟨by decide +kernel, by decide +kernel⟩, List.mem_of_getElem? (i := 718) (by decide +kernel), List.mem_of_getElem? (i := 839) (by decide +kernel), List.mem_of_getElem? (i := 840) (by decide +kernel)⟩
theorem lw_p23 : lw_okq (⟨"QuadSnailModel", "placed", "(I)I"⟩, 12) := ⟨⟨by decide +kernel, by decide +kernel⟩, List.mem_of_getElem? (i := 718) (by decide +kernel), List.mem_of_getElem? (i := 843) (by decide +kernel), List.mem_of_getElem? (i := 844) (by decide +kernel)⟩
theorem lw_p24 : lw_okq (⟨"QuadSnailModel", "canGoBack", "(II)Z"⟩, 12) := ⟨⟨by decide +kernel, by decide +kernel⟩, List.mem_of_getElem? (i := 718) (by decide +kernel), List.mem_of_getElem? (i := 851) (by decide +kernel), List.mem_of_getElem? (i := 852) (by decide +kernel)⟩
theorem lw_p25 : lw_okq (⟨"QuadSnailModel", "goesBack", "(II)I"⟩, 12) := ⟨⟨by decide +kernel, by decide +kernel⟩, List.mem_of_getElem? (i := 718) (by decide +kernel), List.mem_of_getElem? (i := 855) (by decide +kernel), List.mem_of_getElem? (i := 856) (by decide +kernel)⟩
theorem lw_p26 : lw_okq (⟨"QuadSnailModel", "go", "(Z)Z"⟩, 12) := ⟨⟨by decide +kernel, by decide +kernel⟩, List.mem_of_getElem? (i := 718) (by decide +kernel), List.mem_of_getElem? (i := 879) (by decide +kernel), List.mem_of_getElem? (i := 880) (by decide +kernel)⟩
theorem lw_p27 : lw_okq (⟨"QuadSnailModel", "isOrdered", "(Z)Z"⟩, 12) := ⟨⟨by decide +kernel, by decide +kernel⟩, List.mem_of_getElem? (i := 718) (by decide +kernel), List.mem_of_getElem? (i := 883) (by decide +kernel), List.mem_of_getElem? (i := 884) (by decide +kernel)⟩
theorem lw_p28 : lw_okq (⟨"QuadSnailModel", "sign", "(II)I"⟩, 12) := ⟨⟨by decide +kernel, by decide +kernel⟩, List.mem_of_getElem? (i := 718) (by decide +kernel), List.mem_of_getElem? (i := 887) (by decide +kernel), List.mem_of_getElem? (i := 888) (by decide +kernel)⟩
theorem lw_p29 : lw_okq (⟨"QuadSnailModel", "isNext", "(II)Z"⟩, 12) := ⟨⟨by decide +kernel, by decide +kernel⟩, List.mem_of_getElem? (i := 718) (by decide +kernel), List.mem_of_getElem? (i := 891) (by decide +kernel), List.mem_of_getElem? (i := 892) (by decide +kernel)⟩
theorem lw_p30 : lw_okq (⟨"QuadSnailModel", "isFelt", "(IZ)Z"⟩, 12) := ⟨⟨by decide +kernel, by decide +kernel⟩, List.mem_of_getElem? (i := 718) (by decide +kernel), List.mem_of_getElem? (i := 895) (by decide +kernel), List.mem_of_getElem? (i := 896) (by decide +kernel)⟩
theorem lw_p31 : lw_okq (⟨"QuadSnailModel", "isPossible", "()Z"⟩, 12) := ⟨⟨by decide +kernel, by decide +kernel⟩, List.mem_of_getElem? (i := 718) (by decide +kernel), List.mem_of_getElem? (i := 903) (by decide +kernel), List.mem_of_getElem? (i := 904) (by decide +kernel)⟩
def lw_privs_2 : List (MethodName × Nat) := [(⟨"QuadSnailModel", "stepOf", "(II)I"⟩, 12), (⟨"QuadSnailModel", "record", "()V"⟩, 12), (⟨"QuadSnailModel", "feels", "(III)I"⟩, 12), (⟨"QuadSnailModel", "grow", "(III)V"⟩, 12), (⟨"QuadSnailModel", "lay", "(III)V"⟩, 12), (⟨"QuadSnailModel", "turns", "(II)V"⟩, 12), (⟨"QuadSnailModel", "meets", "(I)I"⟩, 12), (⟨"QuadSnailModel", "placed", "(I)I"⟩, 12), (⟨"QuadSnailModel", "canGoBack", "(II)Z"⟩, 12), (⟨"QuadSnailModel", "goesBack", "(II)I"⟩, 12), (⟨"QuadSnailModel", "go", "(Z)Z"⟩, 12), (⟨"QuadSnailModel", "isOrdered", "(Z)Z"⟩, 12), (⟨"QuadSnailModel", "sign", "(II)I"⟩, 12), (⟨"QuadSnailModel", "isNext", "(II)Z"⟩, 12), (⟨"QuadSnailModel", "isFelt", "(IZ)Z"⟩, 12), (⟨"QuadSnailModel", "isPossible", "()Z"⟩, 12)]
theorem lw_r2 : ∀ q ∈ lw_privs_2, lw_okq q := List.forall_mem_cons.mpr ⟨lw_p16, List.forall_mem_cons.mpr ⟨lw_p17, List.forall_mem_cons.mpr ⟨lw_p18, List.forall_mem_cons.mpr ⟨lw_p19, List.forall_mem_cons.mpr ⟨lw_p20, List.forall_mem_cons.mpr ⟨lw_p21, List.forall_mem_cons.mpr ⟨lw_p22, List.forall_mem_cons.mpr ⟨lw_p23, List.forall_mem_cons.mpr ⟨lw_p24, List.forall_mem_cons.mpr ⟨lw_p25, List.forall_mem_cons.mpr ⟨lw_p26, List.forall_mem_cons.mpr ⟨lw_p27, List.forall_mem_cons.mpr ⟨lw_p28, List.forall_mem_cons.mpr ⟨lw_p29, List.forall_mem_cons.mpr ⟨lw_p30, List.forall_mem_cons.mpr ⟨lw_p31, fun _ h => absurd h List.not_mem_nil⟩⟩⟩⟩⟩⟩⟩⟩⟩⟩⟩⟩⟩⟩⟩⟩
theorem lw_p32 : lw_okq (⟨"QuadSnailModel", "sum", "()I"⟩, 12) := ⟨⟨by decide +kernel, by decide +kernel⟩, List.mem_of_getElem? (i := 718) (by decide +kernel), List.mem_of_getElem? (i := 919) (by decide +kernel), List.mem_of_getElem? (i := 920) (by decide +kernel)⟩
theorem lw_p33 : lw_okq (⟨"QuadSnailModel", "told", "(II)I"⟩, 12) := ⟨⟨by decide +kernel, by decide +kernel⟩, List.mem_of_getElem? (i := 718) (by decide +kernel), List.mem_of_getElem? (i := 931) (by decide +kernel), List.mem_of_getElem? (i := 932) (by decide +kernel)⟩
def lw_privs_3 : List (MethodName × Nat) := [(⟨"QuadSnailModel", "sum", "()I"⟩, 12), (⟨"QuadSnailModel", "told", "(II)I"⟩, 12)]
theorem lw_r3 : ∀ q ∈ lw_privs_3, lw_okq q := List.forall_mem_cons.mpr ⟨lw_p32, List.forall_mem_cons.mpr ⟨lw_p33, fun _ h => absurd h List.not_mem_nil⟩⟩
def lw_privs : List (MethodName × Nat) := lw_privs_1 ++ (lw_privs_2 ++ (lw_privs_3))
def lw_tbl : List Cond := k2_sels lw_privs ++ tables_1
theorem lw_privs_ok : ∀ q ∈ lw_privs, lw_okq q := by
  show ∀ q ∈ lw_privs_1 ++ (lw_privs_2 ++ (lw_privs_3)), lw_okq q
  exact List.forall_mem_append.mpr ⟨lw_r1, List.forall_mem_append.mpr ⟨lw_r2, lw_r3⟩⟩
/-- the streams that the claim lets the run draw from -/
abbrev lw_cs : List Choice := [Jvm.Choice.named "NaN.bits"]
theorem lw_bits : nanBits ∈ lw_cs := by first | decide | exact List.mem_cons_self | simp [lw_cs, nanBits]
/-! ===== BEGIN words of one list among another's, by their places ===== -/
theorem goodIn_r {big : List Cond} (ws : List Cond) (ps : List Nat) (hp : ws = ps.filterMap (fun i => big[i]?)) (h : ws.all goodWord = true) : GoodIn big ws := by
  intro w hw
  have h1 := List.all_eq_true.mp h w hw
  rw [hp] at hw
  obtain ⟨i, -, hi⟩ := List.mem_filterMap.mp hw
  have hm : w ∈ big := by first | exact List.mem_of_getElem? hi | exact List.getElem?_mem hi
  exact ⟨hm, good_of_word h1⟩
theorem goodIn_app {big a b : List Cond} (ha : GoodIn big a) (hb : GoodIn big b) : GoodIn big (a ++ b) := fun w h => (List.mem_append.mp h).elim (ha w) (hb w)
theorem goodIn_ca {big a b : List Cond} {c : Cond} (ha : GoodIn big (c :: a)) (hb : GoodIn big b) : GoodIn big (c :: (a ++ b)) := fun w h => (List.mem_cons.mp h).elim (fun e => ha w (List.mem_cons.mpr (Or.inl e))) (fun h => (List.mem_append.mp h).elim (fun h => ha w (List.mem_cons.mpr (Or.inr h))) (hb w))
theorem goodIn_sub {big ws : List Cond} (hm : ∀ w ∈ ws, w ∈ big) (h : ws.all goodWord = true) : GoodIn big ws := fun w hw => ⟨hm w hw, good_of_word (List.all_eq_true.mp h w hw)⟩
/-! ===== END ===== -/

/-! ===== BEGIN exceptions that leave a method, and their catching by the caller (launches without stack traces) ===== -/
section VXA
/-! The laws vx_back, vx_callV, vx_callS, vx_callSW, vx_throw0, vx_throwS follow proofs of the library, with one case more: JvmDerived/Free/Laws.lean (Back.of_free), Shelf42/LK1.lean (callV, callS), Shelf/KitTraced.lean (throwNew0V, throwNewS). -/
/-- where a method has thrown q: the class by its name, the cell, what was written, the world -/
def vx_T (XC : String → State → State → Prop) (st : State) (q : Addr) (t : State) (mc ms : Nat) (free : Addr → Prop) : Prop :=
  ∃ (E : String) (ce : Cell) (L : List Loc), XC E st t ∧ t.heap[q]? = some ce ∧ ce.vm = .none ∧ st.vm.findClass E = some ce.cls ∧ st.WarmedH t.vm ∧ st.sameButNew ({ t with vm := st.vm } : State) L mc ms ∧ ∀ z ∈ L, free z.base
def vx_Q (Qc : Array Value → State → Outcome → State → Prop) (XC : String → State → State → Prop) (mc ms : Nat) (free : Addr → Prop) : Array Value → State → Outcome → State → Prop := fun a st o t =>
  (Qc a st o t ∧ ∃ L, FrameEnd st o t L mc ms ∧ ∀ q ∈ L, free q.base) ∨ ∃ q, o = .threw q ∧ vx_T XC st q t mc ms free
/-- a callee that returns or throws -/
def vx_Met (l : Launch) (y : MethodName) (ws : List Cond) (rm : Room) (Pc : Array Value → State → Prop) (Qc : Array Value → State → Outcome → State → Prop) (XC : String → State → State → Prop) (mc ms : Nat) (free : Addr → Prop) : Prop :=
  MetFree l y (headSpec ws rm) Pc (fun _ _ _ _ _ => True) (vx_Q Qc XC mc ms free)
def vx_Post (XC : String → State → State → Prop) (mc ms : Nat) (free : Addr → Prop) : Pt → Array Value → Addr → Pt → Prop := fun A a q B =>
  ∃ (g : JFrame) (mk : MethodId) (t : State) (L : List Loc) (E : String) (ce : Cell), B.U.heap = t.heap ∧ B.U.vm = t.vm ∧ XC E (A.U.calling g mk a) t ∧ t.heap[q]? = some ce ∧ ce.vm = .none ∧ A.U.vm.findClass E = some ce.cls ∧ B.locs = A.locs ++ L ∧ (∀ z ∈ L, free z.base) ∧ B.cells = A.cells + mc ∧ B.slots = A.slots + ms
def vx_Back (l : Launch) (R : Room) (p : Program) (e : Env) (below : List Frame) (s : State) (sargs : Array Value) (y : MethodName) (len W9 : Nat)
    (Pre : Pt → Array Value → Prop) (Post : Pt → Array Value → Option Value → Pt → Prop) (PostX : Pt → Array Value → Addr → Pt → Prop) : Prop :=
  ∀ (m : MethodId) (meth : Method) (c : Code) (A : Pt) (g : JFrame) (ig : Instr) (mk : MethodId) (a : Array Value),
    Stand p l e R s m sargs below meth c A.U A.locs A.cells A.slots → g.method = m → g.locals.size = c.maxLocals → decode c.code g.pc = .ok (ig, len) →
    2 * g.monitorRoom + (g.stack.map fun v => v.category).sum ≤ W9 → A.U.methodNamed? y = some mk → Pre A a →
    (∃ (v : Option Value) (B : Pt), Stand p l e R s m sargs below meth c B.U B.locs B.cells B.slots ∧ Post A a v B ∧
      Steps p.tables e below (doInvoke e (A.U.setTop g) [] mk a).1 (B.U.setTop { g with pc := g.pc + len, stack := v.toList ++ g.stack })) ∨
    (∃ (q : Addr) (B : Pt), Stand p l e R s m sargs below meth c B.U B.locs B.cells B.slots ∧ PostX A a q B ∧
      Steps p.tables e below (doInvoke e (A.U.setTop g) [] mk a).1 ((B.U.setTop g).pushFrame (.throwing q)))
section Payer
variable {l : Launch} {R : Room} {p : Program} {e : Env} {below : List Frame} {s : State} {sargs : Array Value} {y : MethodName} {len W9 : Nat}
theorem vx_back {ws : List Cond} {rm : Room} {Pc : Array Value → State → Prop} {Qc : Array Value → State → Outcome → State → Prop} {XC : String → State → State → Prop} {mc ms : Nat} {free : Addr → Prop} {bytes : ByteArray} {maxL : Nat} {ret : Option FieldType}
    (hM : vx_Met l y ws rm Pc Qc XC mc ms free) (hblind : FrameBlind Pc) (hrc : rm.cells = mc) (hrs : rm.slots = ms)
    (hframes : rm.frames + 1 ≤ R.frames) (hlocals : W9 + (maxL + 11) + rm.locals ≤ R.locals)
    (hws : ∀ w ∈ ws, ∀ a' U, s.WarmedH U.vm → w.before a' U = true) (hcode : Cond.code y bytes maxL ret ∈ ws) (hinit : ∀ a' U, s.WarmedH U.vm → (Cond.initialized y.cls).before a' U = true) :
    vx_Back l R p e below s sargs y len W9 (PreOf R mc ms Pc) (PostOf Qc mc ms free) (vx_Post XC mc ms free) := by
  intro m meth c A g ig mk a X hg hsize hdg hW hn hp
  have h1 : (headSpec ws rm).pre.before a A.U = true := atoms_intro fun w hw => hws w hw _ _ X.warmed
  have h2 : (Cond.code y bytes maxL ret).before a A.U = true := hws _ hcode _ _ X.warmed
  have h3 : (Cond.initialized y.cls).before a A.U = true := hinit _ _ X.warmed
  have h4 : A.cells + (headSpec ws rm).room.cells ≤ R.cells := by rw [show (headSpec ws rm).room.cells = mc from hrc]; exact hp.1
  have h5 : A.slots + (headSpec ws rm).room.slots ≤ R.slots := by rw [show (headSpec ws rm).room.slots = ms from hrs]; exact hp.2.1
  have hPc : Pc a (A.U.calling g mk a) := hblind _ _ _ _ hp.2.2
  obtain ⟨U, Ls, c0, s0⟩ := A
  dsimp only [Pt.U, Pt.locs, Pt.cells, Pt.slots] at h1 h2 h3 h4 h5 X hn hPc ⊢
  obtain ⟨methY, cY, hmY, hcY, -, hlY, -, -, -, -⟩ := Cond.code_spec hn h2
  obtain ⟨kY, hkY, -⟩ := className_of_methodNamed hn
  have hinitY : kY.init = .initialized := Cond.initialized_spec (findClass_of_methodNamed hn) hkY h3
  have h : At U g.method c below := by rw [hg]; exact X.here
  have hlocals9 : W9 + (maxL + 11) + (headSpec ws rm).room.locals ≤ R.locals := hlocals
  have happ : (headSpec ws rm).appliesLoose y e.platform (U.calling g mk a) = true :=
    Spec.appliesLoose_calling (g := g) h hdg hn hkY hinitY
      (X.room_calling (g := g) (R' := (headSpec ws rm).room) hsize hmY hcY hframes (by rw [hlY]; omega) h4 h5) h1
  obtain ⟨mid, hmid⟩ := h.above
  have hfr : (U.setTop g).frames = (.java g :: mid) ++ below := by rw [State.frames_setTop' g h.top, hmid]; rfl
  obtain ⟨o, s₂, hsteps, -, hend, hq⟩ := Steps.callFree hM p X.admits X.cas X.clock (acts := []) hfr happ hPc trivial
  have hq' : vx_Q Qc XC mc ms free a (U.calling g mk a) o s₂ := hq
  rw [State.frames_setTop' g h.top] at hend
  obtain ⟨g₀, hg0⟩ := Option.isSome_iff_exists.mp h.top
  obtain ⟨r, hr⟩ := State.topJava?_eq_some.mp hg0
  have hr' : (({ U with heap := s₂.heap, slotsUsed := s₂.slotsUsed } : State).setVm s₂.vm).frames = .java g₀ :: r := hr
  rcases hq' with ⟨hqc, L, hfe, hL⟩ | ⟨q, rfl, E, ce, L, hx, hce, hcv, hcl, hW₂, hsm, hL⟩
  · obtain ⟨⟨v, rfl⟩, hW₂, e2, q2, q3, q4, q5, q6⟩ := id hfe
    have e3 : s₂ = ({ (U.calling g mk a).setFrames s₂.frames with heap := s₂.heap, slotsUsed := s₂.slotsUsed } : State).setVm s₂.vm := by
      have : s₂ = ({ s₂ with vm := (U.calling g mk a).vm } : State).setVm s₂.vm := rfl
      rw [e2] at this
      exact this
    obtain ⟨c₂, i₂, len₂, hc₂, hd₂, hf₂⟩ := hend
    have hW' : U.WarmedH s₂.vm := hW₂
    have hcc : c₂ = c := by
      have h1 : s₂.code? g.method = U.code? g.method := by
        rw [State.code?_eq, State.code?_eq, hW'.alike.method?]
      exact Option.some.inj (hc₂.symm.trans (h1.trans h.code))
    subst hcc
    have hlen : len₂ = len := by rw [hdg] at hd₂; cases hd₂; rfl
    subst hlen
    have hs₂ : s₂ = (({ U with heap := s₂.heap, slotsUsed := s₂.slotsUsed } : State).setVm s₂.vm).setTop { g with pc := g.pc + len₂, stack := v.toList ++ g.stack } := by
      refine e3.trans ?_
      rw [hf₂, State.calling_eq h.top, State.setFrames_setFrames, State.setTop_of_frames _ hr', hr]
      rfl
    have hsame : U.sameButNew ({ U with heap := s₂.heap, slotsUsed := s₂.slotsUsed } : State) L mc ms := by
      refine ⟨?_, q2, q3, q4, q5, q6⟩
      obtain ⟨t, ht, -⟩ := State.frames_cons hr
      show ({ U with heap := s₂.heap, slotsUsed := s₂.slotsUsed } : State) = { U.setFrames U.frames with heap := s₂.heap, slotsUsed := s₂.slotsUsed }
      rw [State.setFrames_self ht]
    subst hg
    refine Or.inl ⟨v, ⟨(({ U with heap := s₂.heap, slotsUsed := s₂.slotsUsed } : State).setVm s₂.vm), Ls ++ L, c0 + mc, s0 + ms⟩,
      ⟨X.admits, X.cas, X.clock, X.frames, X.room, X.hears, X.method, X.code, (X.here.setHeapUsed s₂.heap s₂.slotsUsed).setVm hW'.alike, X.tail, State.WarmedH.trans X.warmed hW', X.limits, X.bytes, X.same.trans (hsame.setVm s.vm)⟩,
      ⟨g, mk, s₂, L, rfl, rfl, hqc, rfl, hL, rfl, rfl⟩, ?_⟩
    show Steps p.tables e below _ ((({ U with heap := s₂.heap, slotsUsed := s₂.slotsUsed } : State).setVm s₂.vm).setTop { g with pc := g.pc + len₂, stack := v.toList ++ g.stack })
    rw [← hs₂]
    exact hsteps
  · obtain ⟨e2, q2, q3, q4, q5, q6⟩ := id hsm
    have e3 : s₂ = ({ (U.calling g mk a).setFrames s₂.frames with heap := s₂.heap, slotsUsed := s₂.slotsUsed } : State).setVm s₂.vm := by
      have : s₂ = ({ s₂ with vm := (U.calling g mk a).vm } : State).setVm s₂.vm := rfl
      rw [e2] at this
      exact this
    have hf₂ : s₂.frames = .throwing q :: .java g :: U.frames.tail := hend
    have hW' : U.WarmedH s₂.vm := hW₂
    have hs₂ : s₂ = ((({ U with heap := s₂.heap, slotsUsed := s₂.slotsUsed } : State).setVm s₂.vm).setTop g).pushFrame (.throwing q) := by
      refine e3.trans ?_
      rw [hf₂, State.calling_eq h.top, State.setFrames_setFrames, State.pushFrame, State.frames_setTop _ hr', State.setTop_of_frames _ hr', State.setFrames_setFrames, hr]
      rfl
    have hsame : U.sameButNew ({ U with heap := s₂.heap, slotsUsed := s₂.slotsUsed } : State) L mc ms := by
      refine ⟨?_, q2, q3, q4, q5, q6⟩
      obtain ⟨t, ht, -⟩ := State.frames_cons hr
      show ({ U with heap := s₂.heap, slotsUsed := s₂.slotsUsed } : State) = { U.setFrames U.frames with heap := s₂.heap, slotsUsed := s₂.slotsUsed }
      rw [State.setFrames_self ht]
    subst hg
    refine Or.inr ⟨q, ⟨(({ U with heap := s₂.heap, slotsUsed := s₂.slotsUsed } : State).setVm s₂.vm), Ls ++ L, c0 + mc, s0 + ms⟩,
      ⟨X.admits, X.cas, X.clock, X.frames, X.room, X.hears, X.method, X.code, (X.here.setHeapUsed s₂.heap s₂.slotsUsed).setVm hW'.alike, X.tail, State.WarmedH.trans X.warmed hW', X.limits, X.bytes, X.same.trans (hsame.setVm s.vm)⟩,
      ⟨g, mk, s₂, L, E, ce, rfl, rfl, hx, hce, hcv, hcl, rfl, hL, rfl, rfl⟩, ?_⟩
    show Steps p.tables e below _ (((({ U with heap := s₂.heap, slotsUsed := s₂.slotsUsed } : State).setVm s₂.vm).setTop g).pushFrame (.throwing q))
    rw [← hs₂]
    exact hsteps
end Payer
section Calls
variable {p : Program} {l : Launch} {e : Env} {R : Room} {s : State} {m : MethodId} {args : Array Value} {below : List Frame} {meth : Method} {c : Code} {T : State} {locs : List Loc} {cells slots : Nat}
theorem vx_callV (X : Stand p l e R s m args below meth c T locs cells slots) (hexec : p.tables.exec = Jvm.exec) {own C : String} {index : Nat} {y : MethodName} {bytes : ByteArray} {maxL : Nat} {ret : Option FieldType}
    (hown : s.vm.findClass own = some m.cls) (hlink : (Cond.methodLink own index y).before args s = true) (hinst : (Cond.instanceMethod y).before args s = true) (hsel : (Cond.selects C y y).before args s = true)
    (hcode : (Cond.code y bytes maxL ret).before args s = true) (hy : y.cls ≠ "java/lang/invoke/MethodHandle" ∧ y.cls ≠ "java/lang/invoke/VarHandle")
    {W9 : Nat} {Pre : Pt → Array Value → Prop} {Post : Pt → Array Value → Option Value → Pt → Prop} {PostX : Pt → Array Value → Addr → Pt → Prop} (hK : vx_Back l R p e below s args y 3 W9 Pre Post PostX)
    {b : Addr} {cellB : Cell} (hcell : T.heap[b]? = some cellB) (hobj : cellB.vm.isStatics = false) (hcls : s.vm.findClass C = some cellB.cls)
    {g : JFrame} (hg : g.method = m) (hsize : g.locals.size = c.maxLocals) {argsL rest : List Value} (hlen : ∀ sig, parseMethodDescriptor y.desc = some sig → argsL.length = sig.parameters.length)
    (hstack : g.stack = argsL.reverse ++ .ref b :: rest) (hW : 2 * g.monitorRoom + (rest.map fun v => v.category).sum ≤ W9) (hdg : decode c.code g.pc = .ok (.invokevirtual index, 3))
    (hpre : ∀ vm₁, s.WarmedH vm₁ → Pre ⟨T.setVm vm₁, locs, cells, slots⟩ (Value.ref b :: argsL).toArray) :
    (∃ (v : Option Value) (vm₁ : Vm) (B : Pt), s.WarmedH vm₁ ∧ Stand p l e R s m args below meth c B.U B.locs B.cells B.slots ∧ Post ⟨T.setVm vm₁, locs, cells, slots⟩ (Value.ref b :: argsL).toArray v B ∧
      ∀ target, Steps p.tables e below (B.U.setTop { g with pc := g.pc + 3, stack := v.toList ++ rest }) target → Steps p.tables e below (T.setTop g) target) ∨
    (∃ (q : Addr) (vm₁ : Vm) (B : Pt), s.WarmedH vm₁ ∧ Stand p l e R s m args below meth c B.U B.locs B.cells B.slots ∧ PostX ⟨T.setVm vm₁, locs, cells, slots⟩ (Value.ref b :: argsL).toArray q B ∧
      Steps p.tables e below (T.setTop g) ((B.U.setTop { g with stack := rest }).pushFrame (.throwing q))) := by
  obtain ⟨mk, methM, hnamed, hmethM, hstM, habM⟩ := Cond.instanceMethod_spec hinst
  obtain ⟨methM', cM, hmethM', -, -, -, -, -, -, hsigM⟩ := Cond.code_spec hnamed hcode
  cases hmethM.symm.trans hmethM'
  obtain ⟨c2, r2, m2, q1, q2, q3, q4, kP, hkP, hkPi⟩ := Cond.selects_spec hsel
  cases hcls.symm.trans q1
  cases (State.methodFound?_of_named hnamed hy).symm.trans q2
  cases hnamed.symm.trans q3
  have hselP : selectMethod e.platform s.vm cellB.cls mk = .method mk := by rw [Launch.admits_selectMethod X.admits]; exact q4
  obtain ⟨vm₁, X₁, hstep₁⟩ := X.invokevirtual hexec hown hlink hnamed hmethM hstM hkP hkPi hy (a := b) (cell := cellB) hcell
    (fun z h => by rw [h] at hobj; cases hobj) hselP hmethM habM hkP hkPi (g := g) hg (argsL := argsL) (rest := rest) (hlen _ hsigM) hstack hdg
  rcases hK m meth c ⟨T.setVm vm₁, locs, cells, slots⟩ { g with stack := rest } (.invokevirtual index) mk (Value.ref b :: argsL).toArray X₁ hg hsize hdg hW (X₁.named hnamed) (hpre vm₁ X₁.warmed) with ⟨v, B, X', hpost, hsteps⟩ | ⟨q, B, X', hpost, hsteps⟩
  · exact Or.inl ⟨v, vm₁, B, X₁.warmed, X', hpost, fun target h => hstep₁ _ fun acts => by rw [doInvoke_state]; exact hsteps.trans h⟩
  · exact Or.inr ⟨q, vm₁, B, X₁.warmed, X', hpost, hstep₁ _ fun acts => by rw [doInvoke_state]; exact hsteps⟩
theorem vx_callS (X : Stand p l e R s m args below meth c T locs cells slots) (hexec : p.tables.exec = Jvm.exec) {own : String} {index : Nat} {y : MethodName} {bytes : ByteArray} {maxL : Nat} {ret : Option FieldType}
    (hown : s.vm.findClass own = some m.cls) (hlink : (Cond.methodLink own index y).before args s = true) (hstat : (Cond.static y).before args s = true) (hinit : (Cond.initialized y.cls).before args s = true)
    (hcode : (Cond.code y bytes maxL ret).before args s = true) (hy : y.cls ≠ "java/lang/invoke/MethodHandle" ∧ y.cls ≠ "java/lang/invoke/VarHandle")
    {W9 : Nat} {Pre : Pt → Array Value → Prop} {Post : Pt → Array Value → Option Value → Pt → Prop} {PostX : Pt → Array Value → Addr → Pt → Prop} (hK : vx_Back l R p e below s args y 3 W9 Pre Post PostX)
    {g : JFrame} (hg : g.method = m) (hsize : g.locals.size = c.maxLocals) {argsL rest : List Value} (hlen : ∀ sig, parseMethodDescriptor y.desc = some sig → argsL.length = sig.parameters.length)
    (hstack : g.stack = argsL.reverse ++ rest) (hW : 2 * g.monitorRoom + (rest.map fun v => v.category).sum ≤ W9) (hdg : decode c.code g.pc = .ok (.invokestatic index, 3))
    (hpre : ∀ vm₁, s.WarmedH vm₁ → Pre ⟨T.setVm vm₁, locs, cells, slots⟩ argsL.toArray) :
    (∃ (v : Option Value) (vm₁ : Vm) (B : Pt), s.WarmedH vm₁ ∧ Stand p l e R s m args below meth c B.U B.locs B.cells B.slots ∧ Post ⟨T.setVm vm₁, locs, cells, slots⟩ argsL.toArray v B ∧
      ∀ target, Steps p.tables e below (B.U.setTop { g with pc := g.pc + 3, stack := v.toList ++ rest }) target → Steps p.tables e below (T.setTop g) target) ∨
    (∃ (q : Addr) (vm₁ : Vm) (B : Pt), s.WarmedH vm₁ ∧ Stand p l e R s m args below meth c B.U B.locs B.cells B.slots ∧ PostX ⟨T.setVm vm₁, locs, cells, slots⟩ argsL.toArray q B ∧
      Steps p.tables e below (T.setTop g) ((B.U.setTop { g with stack := rest }).pushFrame (.throwing q))) := by
  obtain ⟨mk, hnamed⟩ := Cond.code_named hcode
  obtain ⟨methM, cM, hmethM, -, -, -, -, -, -, hsigM⟩ := Cond.code_spec hnamed hcode
  have hstatic : methM.isStatic = true := Cond.static_spec hnamed hmethM hstat
  obtain ⟨kP, hkP, -⟩ := className_of_methodNamed hnamed
  have hinitP : kP.init = .initialized := Cond.initialized_spec (findClass_of_methodNamed hnamed) hkP hinit
  obtain ⟨vm₁, X₁, hstep₁⟩ := X.invokestatic hexec hown hlink hnamed hmethM hstatic hkP hinitP hy (g := g) hg (argsL := argsL) (rest := rest) (hlen _ hsigM) hstack hdg
  rcases hK m meth c ⟨T.setVm vm₁, locs, cells, slots⟩ { g with stack := rest } (.invokestatic index) mk argsL.toArray X₁ hg hsize hdg hW (X₁.named hnamed) (hpre vm₁ X₁.warmed) with ⟨v, B, X', hpost, hsteps⟩ | ⟨q, B, X', hpost, hsteps⟩
  · exact Or.inl ⟨v, vm₁, B, X₁.warmed, X', hpost, fun target h => hstep₁ _ fun acts => by rw [doInvoke_state]; exact hsteps.trans h⟩
  · exact Or.inr ⟨q, vm₁, B, X₁.warmed, X', hpost, hstep₁ _ fun acts => by rw [doInvoke_state]; exact hsteps⟩
end Calls
theorem vx_cls {s : State} {T : State} {vm₁ : Vm} {E : String} {k : ClassId} (hW : s.WarmedH vm₁) (h : (T.setVm vm₁).vm.findClass E = some k) : s.vm.findClass E = some k := by
  have h1 : vm₁.findClass E = some k := h
  rw [hW.alike.findClass] at h1
  exact h1
/-- the method's frame g, with q thrown over it -/
def vx_W (p : Program) (l : Launch) (e : Env) (R : Room) (s : State) (m : MethodId) (args : Array Value) (below : List Frame) (meth : Method) (c : Code) (H : Heap) (locs : List Loc) (cells slots : Nat) (Q : State → Prop) (g : JFrame) (q : Addr) : Prop :=
  ∀ T : State, T.heap = H → Stand p l e R s m args below meth c T locs cells slots → ∃ t, Steps p.tables e below ((T.setTop g).pushFrame (.throwing q)) t ∧ Q t
def vx_Run (p : Program) (l : Launch) (e : Env) (R : Room) (s : State) (m : MethodId) (args : Array Value) (below : List Frame) (meth : Method) (c : Code) (H : Heap) (locs : List Loc) (cells slots mc ms : Nat) (g : JFrame) (rest : List Value) (Qa : State → Outcome → State → Prop) (XC : String → State → State → Prop) (free : Addr → Prop) : Prop :=
  ∀ T : State, T.heap = H → Stand p l e R s m args below meth c T locs cells slots →
    (∃ (v : Option Value) (st₀ t T' : State) (L : List Loc), st₀.heap = H ∧ Stand p l e R s m args below meth c T' (locs ++ L) (cells + mc) (slots + ms) ∧ (∀ q ∈ L, free q.base) ∧ T'.heap = t.heap ∧ T'.vm = t.vm ∧ Qa st₀ (.returned v) t ∧
      Goes p e below T g T' { g with pc := g.pc + 3, stack := v.toList ++ rest }) ∨
    (∃ (q : Addr) (st₀ t T' : State) (L : List Loc) (E : String) (ce : Cell), st₀.heap = H ∧ Stand p l e R s m args below meth c T' (locs ++ L) (cells + mc) (slots + ms) ∧ (∀ z ∈ L, free z.base) ∧ T'.heap = t.heap ∧ T'.vm = t.vm ∧ XC E st₀ t ∧ t.heap[q]? = some ce ∧ ce.vm = .none ∧ s.vm.findClass E = some ce.cls ∧
      Steps p.tables e below (T.setTop g) ((T'.setTop { g with stack := rest }).pushFrame (.throwing q)))
def vx_X {S : Type} (px : S → Prop) (B : String → S → State → Prop) (A : Nat → Prop) : String → State → State → Prop := fun E st t => ∃ u : S, px u ∧ B E u t ∧ va_F A st t
section Runs
variable {p : Program} {l : Launch} {e : Env} {R : Room} {s : State} {m : MethodId} {args : Array Value} {below : List Frame} {meth : Method} {c : Code} {H : Heap} {locs : List Loc} {cells slots : Nat}
variable {y : MethodName} {bytes cc : ByteArray} {maxL nL mc ms n index : Nat} {ret : Option FieldType} {ws : List Cond} {rm : Room} {Pc : Array Value → State → Prop} {Qc : Array Value → State → Outcome → State → Prop} {XC : String → State → State → Prop} {free : Addr → Prop} {Ts : List Cond} {own C : String} {b : Addr} {As rest : List Value} {g : JFrame}
theorem vx_callBack (cb : CallB R s args own index y bytes maxL ret ws rm mc ms n) (hM : vx_Met l y ws rm Pc Qc XC mc ms free) (hbl : FrameBlind Pc) : vx_Back l R p e below s args y 3 8 (PreOf R mc ms Pc) (PostOf Qc mc ms free) (vx_Post XC mc ms free) := by
  obtain ⟨hrc, hrs, hfr, hlo, hws, hcw, -, hini, -⟩ := cb
  exact vx_back (bytes := bytes) (maxL := maxL) (ret := ret) hM hbl hrc hrs hfr hlo hws hcw (fun a' U hW => word_at hW (Or.inl (by first | rfl | simp [Cond.onTables, Cond.keeps, Cond.steady])) hini)
theorem vx_runV (S : CallFix p m c cc nL s args Ts own) (hM : vx_Met l y ws rm Pc Qc XC mc ms free) (cw : CallW R s args own C index y bytes maxL ret ws rm mc ms n) (hp : PreV s H C b Pc As)
    (hg : g.method = m) (hn : As.length = n) (hsize : g.locals.size = nL) (hstack : g.stack = As.reverse ++ .ref b :: rest) (hW : 2 * g.monitorRoom + (rest.map fun v => v.category).sum ≤ 8) (hdg : decode cc g.pc = .ok (.invokevirtual index, 3)) (hf : cells + mc ≤ R.cells ∧ slots + ms ≤ R.slots) :
    vx_Run p l e R s m args below meth c H locs cells slots mc ms g rest (Qc (Value.ref b :: As).toArray) XC free := by
  have hK : vx_Back l R p e below s args y 3 8 (PreOf R mc ms Pc) (PostOf Qc mc ms free) (vx_Post XC mc ms free) := vx_callBack cw.1 hM hp.1
  obtain ⟨⟨-, -, -, -, -, -, hcode, -, hy, hlen, hl⟩, hin, hse⟩ := cw
  obtain ⟨hx, hb, hml, ho, -⟩ := S
  obtain ⟨-, ⟨cellB, hcB, hoB, hclB⟩, hPc⟩ := hp
  intro T hT X
  rcases vx_callV X hx (C := C) (bytes := bytes) (maxL := maxL) (ret := ret) ho hl hin hse hcode hy hK (by rw [hT]; exact hcB) hoB hclB hg (hsize.trans hml.symm) (argsL := As) (rest := rest) (fun sig h => hn.trans (hlen sig h)) hstack hW (by rw [hb]; exact hdg)
    (fun vm₁ hW₁ => ⟨hf.1, hf.2, hPc (T.setVm vm₁) hT hW₁⟩) with ⟨v, vm₁, ⟨U', l2, c2, s2⟩, hW₁, X', ⟨g', mk, t, L, e1, e2, hq, h1, hL, h2, h3⟩, st⟩ | ⟨q, vm₁, ⟨U', l2, c2, s2⟩, hW₁, X', ⟨g', mk, t, L, E, ce, e1, e2, hq, hce, hcv, hcl, h1, hL, h2, h3⟩, st⟩
  · dsimp only [Pt.U, Pt.locs, Pt.cells, Pt.slots] at X' e1 e2 h1 h2 h3 st
    subst h1; subst h2; subst h3
    exact Or.inl ⟨v, (T.setVm vm₁).calling g' mk (Value.ref b :: As).toArray, t, U', L, hT, X', hL, e1, e2, hq, st⟩
  · dsimp only [Pt.U, Pt.locs, Pt.cells, Pt.slots] at X' e1 e2 h1 h2 h3 st hcl
    subst h1; subst h2; subst h3
    exact Or.inr ⟨q, (T.setVm vm₁).calling g' mk (Value.ref b :: As).toArray, t, U', L, E, ce, hT, X', hL, e1, e2, hq, hce, hcv, vx_cls hW₁ hcl, st⟩
theorem vx_runS (S : CallFix p m c cc nL s args Ts own) (hM : vx_Met l y ws rm Pc Qc XC mc ms free) (cw : CallB R s args own index y bytes maxL ret ws rm mc ms n ∧ (Cond.static y).before args s = true) (hp : PreS s H Pc As)
    (hg : g.method = m) (hn : As.length = n) (hsize : g.locals.size = nL) (hstack : g.stack = As.reverse ++ rest) (hW : 2 * g.monitorRoom + (rest.map fun v => v.category).sum ≤ 8) (hdg : decode cc g.pc = .ok (.invokestatic index, 3)) (hf : cells + mc ≤ R.cells ∧ slots + ms ≤ R.slots) :
    vx_Run p l e R s m args below meth c H locs cells slots mc ms g rest (Qc As.toArray) XC free := by
  have hK : vx_Back l R p e below s args y 3 8 (PreOf R mc ms Pc) (PostOf Qc mc ms free) (vx_Post XC mc ms free) := vx_callBack cw.1 hM hp.1
  obtain ⟨⟨-, -, -, -, -, -, hcode, hini, hy, hlen, hl⟩, hstt⟩ := cw
  obtain ⟨hx, hb, hml, ho, -⟩ := S
  intro T hT X
  rcases vx_callS X hx (bytes := bytes) (maxL := maxL) (ret := ret) ho hl hstt hini hcode hy hK hg (hsize.trans hml.symm) (argsL := As) (rest := rest) (fun sig h => hn.trans (hlen sig h)) hstack hW (by rw [hb]; exact hdg)
    (fun vm₁ hW₁ => ⟨hf.1, hf.2, hp.2 (T.setVm vm₁) hT hW₁⟩) with ⟨v, vm₁, ⟨U', l2, c2, s2⟩, hW₁, X', ⟨g', mk, t, L, e1, e2, hq, h1, hL, h2, h3⟩, st⟩ | ⟨q, vm₁, ⟨U', l2, c2, s2⟩, hW₁, X', ⟨g', mk, t, L, E, ce, e1, e2, hq, hce, hcv, hcl, h1, hL, h2, h3⟩, st⟩
  · dsimp only [Pt.U, Pt.locs, Pt.cells, Pt.slots] at X' e1 e2 h1 h2 h3 st
    subst h1; subst h2; subst h3
    exact Or.inl ⟨v, (T.setVm vm₁).calling g' mk As.toArray, t, U', L, hT, X', hL, e1, e2, hq, st⟩
  · dsimp only [Pt.U, Pt.locs, Pt.cells, Pt.slots] at X' e1 e2 h1 h2 h3 st hcl
    subst h1; subst h2; subst h3
    exact Or.inr ⟨q, (T.setVm vm₁).calling g' mk As.toArray, t, U', L, E, ce, hT, X', hL, e1, e2, hq, hce, hcv, vx_cls hW₁ hcl, st⟩
end Runs
section Rows
variable {p : Program} {l : Launch} {e : Env} {R : Room} {s : State} {m : MethodId} {args : Array Value} {below : List Frame} {meth : Method} {c : Code} {H : Heap} {locs : List Loc} {cells slots : Nat} {Q : State → Prop}
variable {mc ms : Nat} {free : Addr → Prop} {A0 A1 : Nat → Prop} {H0 : Heap} {a : Array Value} {pc : Nat} {ls : Array Slot} {st0 rest : List Value}
theorem vx_keep {st₀ t T' : State} {L : List Loc} (h0 : st₀.heap = H) (e1 : T'.heap = t.heap) (hS : va_S A0 H0 H locs) (hA : ∀ q, q < H.size → A1 q → A0 q) (hf : ∀ q, free q → A0 q) (hL : ∀ q ∈ L, free q.base) (hF : va_F A1 st₀ t) :
    H.size ≤ T'.heap.size ∧ (∀ q : Nat, q < H.size → ¬ A1 q → T'.heap[q]? = H[q]?) ∧ va_S A0 H0 T'.heap (locs ++ L) := by
  obtain ⟨hz, hk⟩ := hF
  rw [h0] at hz hk
  exact ⟨by rw [e1]; exact hz, fun q h1 h2 => by rw [e1]; exact hk q h1 h2,
    ⟨Nat.le_trans hS.1 (by rw [e1]; exact hz), fun q h1 h2 => by rw [e1, hk q (Nat.lt_of_lt_of_le h1 hS.1) (fun z => h2 (hA q (Nat.lt_of_lt_of_le h1 hS.1) z))]; exact hS.2.1 q h1 h2, fun q hq => by
      rcases List.mem_append.mp hq with h | h
      · exact hS.2.2 q h
      · exact hf _ (hL q h)⟩⟩
theorem vx_calli {S SX : Type} {post : Int32 → S → Prop} {px : SX → Prop} {B : S → State → Prop} {BX : String → SX → State → Prop} {AX : Nat → Prop} (hr : vx_Run p l e R s m args below meth c H locs cells slots mc ms (F0 m pc ls st0) rest (va_Qi post B A1 a) (vx_X px BX AX) free) (hS : va_S A0 H0 H locs) (hA : ∀ q, q < H.size → A1 q → A0 q) (hf : ∀ q, free q → A0 q) (hAX : ∀ q, q < H.size → AX q → A0 q)
    (kx : ∀ (E : String) (ce : Cell) (q9 : Addr) (u : SX) (t : State) (H1 : Heap) (locs1 : List Loc), t.heap = H1 → s.vm.Alike t.vm → px u → BX E u t → H.size ≤ H1.size → (∀ q : Nat, q < H.size → ¬ AX q → H1[q]? = H[q]?) → va_S A0 H0 H1 locs1 → H1[q9]? = some ce → ce.vm = .none → s.vm.findClass E = some ce.cls → vx_W p l e R s m args below meth c H1 locs1 (cells + mc) (slots + ms) Q (F0 m pc ls rest) q9)
    (kk : ∀ (r : Int32) (u : S) (t : State) (H1 : Heap) (locs1 : List Loc), t.heap = H1 → s.vm.Alike t.vm → post r u → B u t → H.size ≤ H1.size → (∀ q : Nat, q < H.size → ¬ A1 q → H1[q]? = H[q]?) → va_S A0 H0 H1 locs1 → W p l e R s m args below meth c H1 locs1 (cells + mc) (slots + ms) Q (F0 m (pc + 3) ls (.int r :: rest))) : W p l e R s m args below meth c H locs cells slots Q (F0 m pc ls st0) := by
  intro T hT X
  rcases hr T hT X with ⟨v, st₀, t, T', L, h0, X', hL, e1, e2, ⟨⟨r, u, hv, hp, hb⟩, hF⟩, st⟩ | ⟨q, st₀, t, T', L, E, ce, h0, X', hL, e1, e2, ⟨u, hp, hb, hF⟩, hce, hcv, hcl, st⟩
  · cases hv
    obtain ⟨k1, k2, k3⟩ := vx_keep h0 e1 hS hA hf hL hF
    obtain ⟨t2, a1, b1⟩ := kk r u t T'.heap (locs ++ L) e1.symm (by rw [← e2]; exact X'.warmed.alike) hp hb k1 k2 k3 T' rfl X'
    exact ⟨t2, st t2 a1, b1⟩
  · obtain ⟨k1, k2, k3⟩ := vx_keep h0 e1 hS hAX hf hL hF
    obtain ⟨t2, a1, b1⟩ := kx E ce q u t T'.heap (locs ++ L) e1.symm (by rw [← e2]; exact X'.warmed.alike) hp hb k1 k2 k3 (by rw [e1]; exact hce) hcv hcl T' rfl X'
    exact ⟨t2, st.trans a1, b1⟩
theorem vx_calll {S SX : Type} {post : Int64 → S → Prop} {px : SX → Prop} {B : S → State → Prop} {BX : String → SX → State → Prop} {AX : Nat → Prop} (hr : vx_Run p l e R s m args below meth c H locs cells slots mc ms (F0 m pc ls st0) rest (va_Ql post B A1 a) (vx_X px BX AX) free) (hS : va_S A0 H0 H locs) (hA : ∀ q, q < H.size → A1 q → A0 q) (hf : ∀ q, free q → A0 q) (hAX : ∀ q, q < H.size → AX q → A0 q)
    (kx : ∀ (E : String) (ce : Cell) (q9 : Addr) (u : SX) (t : State) (H1 : Heap) (locs1 : List Loc), t.heap = H1 → s.vm.Alike t.vm → px u → BX E u t → H.size ≤ H1.size → (∀ q : Nat, q < H.size → ¬ AX q → H1[q]? = H[q]?) → va_S A0 H0 H1 locs1 → H1[q9]? = some ce → ce.vm = .none → s.vm.findClass E = some ce.cls → vx_W p l e R s m args below meth c H1 locs1 (cells + mc) (slots + ms) Q (F0 m pc ls rest) q9)
    (kk : ∀ (r : Int64) (u : S) (t : State) (H1 : Heap) (locs1 : List Loc), t.heap = H1 → s.vm.Alike t.vm → post r u → B u t → H.size ≤ H1.size → (∀ q : Nat, q < H.size → ¬ A1 q → H1[q]? = H[q]?) → va_S A0 H0 H1 locs1 → W p l e R s m args below meth c H1 locs1 (cells + mc) (slots + ms) Q (F0 m (pc + 3) ls (.long r :: rest))) : W p l e R s m args below meth c H locs cells slots Q (F0 m pc ls st0) := by
  intro T hT X
  rcases hr T hT X with ⟨v, st₀, t, T', L, h0, X', hL, e1, e2, ⟨⟨r, u, hv, hp, hb⟩, hF⟩, st⟩ | ⟨q, st₀, t, T', L, E, ce, h0, X', hL, e1, e2, ⟨u, hp, hb, hF⟩, hce, hcv, hcl, st⟩
  · cases hv
    obtain ⟨k1, k2, k3⟩ := vx_keep h0 e1 hS hA hf hL hF
    obtain ⟨t2, a1, b1⟩ := kk r u t T'.heap (locs ++ L) e1.symm (by rw [← e2]; exact X'.warmed.alike) hp hb k1 k2 k3 T' rfl X'
    exact ⟨t2, st t2 a1, b1⟩
  · obtain ⟨k1, k2, k3⟩ := vx_keep h0 e1 hS hAX hf hL hF
    obtain ⟨t2, a1, b1⟩ := kx E ce q u t T'.heap (locs ++ L) e1.symm (by rw [← e2]; exact X'.warmed.alike) hp hb k1 k2 k3 (by rw [e1]; exact hce) hcv hcl T' rfl X'
    exact ⟨t2, st.trans a1, b1⟩
theorem vx_callf {S SX : Type} {post : UInt32 → S → Prop} {px : SX → Prop} {B : S → State → Prop} {BX : String → SX → State → Prop} {AX : Nat → Prop} (hr : vx_Run p l e R s m args below meth c H locs cells slots mc ms (F0 m pc ls st0) rest (va_Qf post B A1 a) (vx_X px BX AX) free) (hS : va_S A0 H0 H locs) (hA : ∀ q, q < H.size → A1 q → A0 q) (hf : ∀ q, free q → A0 q) (hAX : ∀ q, q < H.size → AX q → A0 q)
    (kx : ∀ (E : String) (ce : Cell) (q9 : Addr) (u : SX) (t : State) (H1 : Heap) (locs1 : List Loc), t.heap = H1 → s.vm.Alike t.vm → px u → BX E u t → H.size ≤ H1.size → (∀ q : Nat, q < H.size → ¬ AX q → H1[q]? = H[q]?) → va_S A0 H0 H1 locs1 → H1[q9]? = some ce → ce.vm = .none → s.vm.findClass E = some ce.cls → vx_W p l e R s m args below meth c H1 locs1 (cells + mc) (slots + ms) Q (F0 m pc ls rest) q9)
    (kk : ∀ (r : UInt32) (u : S) (t : State) (H1 : Heap) (locs1 : List Loc), t.heap = H1 → s.vm.Alike t.vm → post r u → B u t → H.size ≤ H1.size → (∀ q : Nat, q < H.size → ¬ A1 q → H1[q]? = H[q]?) → va_S A0 H0 H1 locs1 → W p l e R s m args below meth c H1 locs1 (cells + mc) (slots + ms) Q (F0 m (pc + 3) ls (.float r :: rest))) : W p l e R s m args below meth c H locs cells slots Q (F0 m pc ls st0) := by
  intro T hT X
  rcases hr T hT X with ⟨v, st₀, t, T', L, h0, X', hL, e1, e2, ⟨⟨r, u, hv, hp, hb⟩, hF⟩, st⟩ | ⟨q, st₀, t, T', L, E, ce, h0, X', hL, e1, e2, ⟨u, hp, hb, hF⟩, hce, hcv, hcl, st⟩
  · cases hv
    obtain ⟨k1, k2, k3⟩ := vx_keep h0 e1 hS hA hf hL hF
    obtain ⟨t2, a1, b1⟩ := kk r u t T'.heap (locs ++ L) e1.symm (by rw [← e2]; exact X'.warmed.alike) hp hb k1 k2 k3 T' rfl X'
    exact ⟨t2, st t2 a1, b1⟩
  · obtain ⟨k1, k2, k3⟩ := vx_keep h0 e1 hS hAX hf hL hF
    obtain ⟨t2, a1, b1⟩ := kx E ce q u t T'.heap (locs ++ L) e1.symm (by rw [← e2]; exact X'.warmed.alike) hp hb k1 k2 k3 (by rw [e1]; exact hce) hcv hcl T' rfl X'
    exact ⟨t2, st.trans a1, b1⟩
theorem vx_calld {S SX : Type} {post : UInt64 → S → Prop} {px : SX → Prop} {B : S → State → Prop} {BX : String → SX → State → Prop} {AX : Nat → Prop} (hr : vx_Run p l e R s m args below meth c H locs cells slots mc ms (F0 m pc ls st0) rest (va_Qd post B A1 a) (vx_X px BX AX) free) (hS : va_S A0 H0 H locs) (hA : ∀ q, q < H.size → A1 q → A0 q) (hf : ∀ q, free q → A0 q) (hAX : ∀ q, q < H.size → AX q → A0 q)
    (kx : ∀ (E : String) (ce : Cell) (q9 : Addr) (u : SX) (t : State) (H1 : Heap) (locs1 : List Loc), t.heap = H1 → s.vm.Alike t.vm → px u → BX E u t → H.size ≤ H1.size → (∀ q : Nat, q < H.size → ¬ AX q → H1[q]? = H[q]?) → va_S A0 H0 H1 locs1 → H1[q9]? = some ce → ce.vm = .none → s.vm.findClass E = some ce.cls → vx_W p l e R s m args below meth c H1 locs1 (cells + mc) (slots + ms) Q (F0 m pc ls rest) q9)
    (kk : ∀ (r : UInt64) (u : S) (t : State) (H1 : Heap) (locs1 : List Loc), t.heap = H1 → s.vm.Alike t.vm → post r u → B u t → H.size ≤ H1.size → (∀ q : Nat, q < H.size → ¬ A1 q → H1[q]? = H[q]?) → va_S A0 H0 H1 locs1 → W p l e R s m args below meth c H1 locs1 (cells + mc) (slots + ms) Q (F0 m (pc + 3) ls (.double r :: rest))) : W p l e R s m args below meth c H locs cells slots Q (F0 m pc ls st0) := by
  intro T hT X
  rcases hr T hT X with ⟨v, st₀, t, T', L, h0, X', hL, e1, e2, ⟨⟨r, u, hv, hp, hb⟩, hF⟩, st⟩ | ⟨q, st₀, t, T', L, E, ce, h0, X', hL, e1, e2, ⟨u, hp, hb, hF⟩, hce, hcv, hcl, st⟩
  · cases hv
    obtain ⟨k1, k2, k3⟩ := vx_keep h0 e1 hS hA hf hL hF
    obtain ⟨t2, a1, b1⟩ := kk r u t T'.heap (locs ++ L) e1.symm (by rw [← e2]; exact X'.warmed.alike) hp hb k1 k2 k3 T' rfl X'
    exact ⟨t2, st t2 a1, b1⟩
  · obtain ⟨k1, k2, k3⟩ := vx_keep h0 e1 hS hAX hf hL hF
    obtain ⟨t2, a1, b1⟩ := kx E ce q u t T'.heap (locs ++ L) e1.symm (by rw [← e2]; exact X'.warmed.alike) hp hb k1 k2 k3 (by rw [e1]; exact hce) hcv hcl T' rfl X'
    exact ⟨t2, st.trans a1, b1⟩
theorem vx_callv {S SX : Type} {post : S → Prop} {px : SX → Prop} {B : S → State → Prop} {BX : String → SX → State → Prop} {AX : Nat → Prop} (hr : vx_Run p l e R s m args below meth c H locs cells slots mc ms (F0 m pc ls st0) rest (va_Qv post B A1 a) (vx_X px BX AX) free) (hS : va_S A0 H0 H locs) (hA : ∀ q, q < H.size → A1 q → A0 q) (hf : ∀ q, free q → A0 q) (hAX : ∀ q, q < H.size → AX q → A0 q)
    (kx : ∀ (E : String) (ce : Cell) (q9 : Addr) (u : SX) (t : State) (H1 : Heap) (locs1 : List Loc), t.heap = H1 → s.vm.Alike t.vm → px u → BX E u t → H.size ≤ H1.size → (∀ q : Nat, q < H.size → ¬ AX q → H1[q]? = H[q]?) → va_S A0 H0 H1 locs1 → H1[q9]? = some ce → ce.vm = .none → s.vm.findClass E = some ce.cls → vx_W p l e R s m args below meth c H1 locs1 (cells + mc) (slots + ms) Q (F0 m pc ls rest) q9)
    (kk : ∀ (u : S) (t : State) (H1 : Heap) (locs1 : List Loc), t.heap = H1 → s.vm.Alike t.vm → post u → B u t → H.size ≤ H1.size → (∀ q : Nat, q < H.size → ¬ A1 q → H1[q]? = H[q]?) → va_S A0 H0 H1 locs1 → W p l e R s m args below meth c H1 locs1 (cells + mc) (slots + ms) Q (F0 m (pc + 3) ls (rest))) : W p l e R s m args below meth c H locs cells slots Q (F0 m pc ls st0) := by
  intro T hT X
  rcases hr T hT X with ⟨v, st₀, t, T', L, h0, X', hL, e1, e2, ⟨⟨u, hv, hp, hb⟩, hF⟩, st⟩ | ⟨q, st₀, t, T', L, E, ce, h0, X', hL, e1, e2, ⟨u, hp, hb, hF⟩, hce, hcv, hcl, st⟩
  · cases hv
    obtain ⟨k1, k2, k3⟩ := vx_keep h0 e1 hS hA hf hL hF
    obtain ⟨t2, a1, b1⟩ := kk u t T'.heap (locs ++ L) e1.symm (by rw [← e2]; exact X'.warmed.alike) hp hb k1 k2 k3 T' rfl X'
    exact ⟨t2, st t2 a1, b1⟩
  · obtain ⟨k1, k2, k3⟩ := vx_keep h0 e1 hS hAX hf hL hF
    obtain ⟨t2, a1, b1⟩ := kx E ce q u t T'.heap (locs ++ L) e1.symm (by rw [← e2]; exact X'.warmed.alike) hp hb k1 k2 k3 (by rw [e1]; exact hce) hcv hcl T' rfl X'
    exact ⟨t2, st.trans a1, b1⟩
/-- caught by the row x of this method's table; the rows ahead don't take it -/
theorem vx_catch {own name : String} {E : String} {ce : Cell} {q : Addr} (hown : s.vm.findClass own = some m.cls) (pre : List ExceptionTableEntry) (x : ExceptionTableEntry) (suf : List ExceptionTableEntry) (hsplit : c.exceptionTable.toList = pre ++ x :: suf)
    (hpass : ∀ z ∈ pre, covers z pc = false ∨ (z.catchType ≠ 0 ∧ ∃ nm : String, (Cond.classLink own z.catchType nm).before args s = true ∧ va_Nc E nm s)) (hx : covers x pc = true) (h0 : x.catchType ≠ 0)
    (hlink : (Cond.classLink own x.catchType name).before args s = true) (hcast : (Cond.castable E name).before args s = true) (hcell : H[q]? = some ce) (hv : ce.vm = .none) (hcl : s.vm.findClass E = some ce.cls)
    (kk : W p l e R s m args below meth c H locs cells slots Q (F0 m x.handlerPc ls [.ref q])) : vx_W p l e R s m args below meth c H locs cells slots Q (F0 m pc ls rest) q := by
  intro T hT X
  have hpl : e.platform.magicAccessors = ({} : Platform).magicAccessors := by rw [X.admits.platform]
  obtain ⟨c3, c4, hc3, hc4, hasg⟩ := Cond.castable_spec hcast
  cases Option.some.inj (hc3.symm.trans hcl)
  obtain ⟨c5, hc5, hcl5⟩ := Cond.classLink_spec hown hlink e.platform hpl
  cases Option.some.inj (hc4.symm.trans hc5)
  obtain ⟨vm', X', st⟩ := X.thenCaughtThrough q (g := F0 m pc ls rest) rfl (Steps.refl _) (by rw [hT]; exact hcell) (by rw [hv]; rfl) (by obtain ⟨k9, h9, -⟩ := Vm.findClass_spec hcl; exact ⟨k9, h9⟩) pre x suf hsplit
    (fun z hz => by
      rcases hpass z hz with h | ⟨hz0, nm, hl1, hn1⟩
      · exact Or.inl h
      · obtain ⟨c6, hc6, hcl6⟩ := Cond.classLink_spec hown hl1 e.platform hpl
        obtain ⟨a8, b8, h1, h2, h3⟩ := hn1
        cases Option.some.inj (h1.symm.trans hcl)
        cases Option.some.inj (h2.symm.trans hc6)
        exact Or.inr ⟨hz0, _, hcl6, h3⟩) hx (Or.inr ⟨h0, c4, hcl5, hasg⟩)
  obtain ⟨t, a1, b1⟩ := kk (T.setVm vm') hT X'
  exact ⟨t, st.trans a1, b1⟩
end Rows
section Ends
variable {p : Program} {l : Launch} {e : Env} {R : Room} {s : State} {m : MethodId} {args : Array Value} {below : List Frame} {meth : Method} {c : Code} {H : Heap} {locs : List Loc} {cells slots : Nat} {Q : State → Prop}
variable {mc ms : Nat} {free : Addr → Prop} {A0 A1 : Nat → Prop} {H0 : Heap} {a : Array Value} {ls : Array Slot} {st0 rest : List Value}
variable {Qc : Array Value → State → Outcome → State → Prop} {XC : String → State → State → Prop}
/-- what a body that may throw owes at its end -/
def vx_MQ (below : List Frame) (Qc : Array Value → State → Outcome → State → Prop) (XC : String → State → State → Prop) (a : Array Value) (s : State) (mc ms : Nat) (free : Addr → Prop) : State → Prop := fun t =>
  ∃ o, t.status = .running ∧ Ended t below o ∧ vx_Q Qc XC mc ms free a s o t
theorem vx_ret {g : JFrame} {mc ms : Nat} (k : W p l e R s m args below meth c H locs cells slots (MQ below Qc args s mc ms free) g) : W p l e R s m args below meth c H locs cells slots (vx_MQ below Qc XC args s mc ms free) g := by
  intro T hT X
  obtain ⟨t, a1, o, b1, b2, b3, b4⟩ := k T hT X
  exact ⟨t, a1, o, b1, b2, Or.inl ⟨b3, b4⟩⟩
/-- not caught here: it goes on to the caller -/
theorem vx_widen {g : JFrame} {q : Addr} {k n : Nat} (h1 : cells ≤ k) (h2 : slots ≤ n) (kk : vx_W p l e R s m args below meth c H locs k n Q g q) : vx_W p l e R s m args below meth c H locs cells slots Q g q := fun T hT X => kk T hT (stand_widen X h1 h2)
theorem vx_out {pc : Nat} {E : String} {ce : Cell} {q : Addr} {mc ms : Nat} (hout : ∀ x ∈ c.exceptionTable.toList, covers x pc = false) (hlocks : meth.locks = false) (hcell : H[q]? = some ce) (hv : ce.vm = .none) (hcl : s.vm.findClass E = some ce.cls)
    (hx : ∀ t : State, t.heap = H → s.vm.Alike t.vm → XC E s t) (hf : ∀ z ∈ locs, free z.base) (hc : cells ≤ mc) (hs : slots ≤ ms) :
    vx_W p l e R s m args below meth c H locs cells slots (vx_MQ below Qc XC args s mc ms free) (F0 m pc ls rest) q := by
  intro T hT X
  obtain ⟨st1, hrun, hend, hW, hsm⟩ := X.leaveThrown q (g := F0 m pc ls rest) rfl rfl rfl hout hlocks
  have hcell9 : (T.setFrames (.throwing q :: below)).heap[q]? = some ce := by
    show T.heap[q]? = some ce
    rw [hT]; exact hcell
  exact ⟨_, st1, .threw q, hrun, hend, Or.inr ⟨q, rfl, E, ce, locs, hx _ hT hW.alike, hcell9, hv, hcl, hW, hsm.mono hc hs, hf⟩⟩
theorem vx_frame {U : State} {k n : Nat} (h : s.sameButNew ({ U with vm := s.vm } : State) locs k n) : s.heap.size ≤ U.heap.size ∧ ∀ q : Nat, q < s.heap.size → (∀ z ∈ locs, z.base ≠ q) → U.heap[q]? = s.heap[q]? := by
  obtain ⟨-, h2, -, -, -, h6⟩ := h
  refine ⟨h2, fun q hq hz => ?_⟩
  obtain ⟨c9, e1, e2, e3, e4⟩ := h6 q _ (Array.getElem?_eq_getElem hq)
  have hs : c9.slots = (s.heap[q]).slots := Array.ext_getElem? fun i => e4 i fun hm => hz _ hm rfl
  have h9 : c9 = s.heap[q] := by
    rw [hs] at e2
    exact e2
  have e5 : U.heap[q]? = some c9 := e1
  rw [e5, h9, Array.getElem?_eq_getElem hq]
/-- the words of a throw but the four that speak of the heap -/
def vx_no (w : Cond) : Bool := decide (w ≠ .isRef (.static Bundle.tN "UNASSIGNED_STACK" Bundle.steD)) && decide (w ≠ .isRef (.static Bundle.tN "SUPPRESSED_SENTINEL" Bundle.listD)) && decide (w ≠ .laysStatic Bundle.tN "UNASSIGNED_STACK" Bundle.steD) && decide (w ≠ .laysStatic Bundle.tN "SUPPRESSED_SENTINEL" Bundle.listD)
def vx_at0 (own : String) (ic : Nat) (X : String) (names : List String) : List Cond := (Bundle.ownAtoms0 own ic X names).filter vx_no
def vx_atS (own : String) (ic : Nat) (X : String) (names : List String) : List Cond := (Bundle.ownAtoms own ic X names).filter vx_no
/-- a word that the tables alone decide, or a good one -/
def vx_ot (w : Cond) : Bool := w.onTables || goodWord w
theorem vx_ot_at {args a' : Array Value} {s U : State} {w : Cond} (hW : s.WarmedH U.vm) (hvm : s.vm = U.vm) (hg : vx_ot w = true) (h : w.before args s = true) : w.before a' U = true := by
  simp only [vx_ot, Bool.or_eq_true] at hg
  rcases hg with hg | hg
  · exact va_tabs hg hvm h
  · exact word_at hW (good_of_word hg) h
/-- a list's words: the good ones out of the method's own list, the others by premises of their own -/
theorem vx_hat {args : Array Value} {s : State} {L B : List Cond} (h1 : ∀ w ∈ L.filter goodWord, w.before args s = true) (h2 : ∀ w ∈ L.filter (fun w => !goodWord w), w ∈ B) (h3 : ∀ w ∈ B, w.before args s = true) : ∀ w ∈ L, w.before args s = true := by
  intro w hw
  by_cases g : goodWord w = true
  · exact h1 w (List.mem_filter.mpr ⟨hw, g⟩)
  · refine h3 w (h2 w (List.mem_filter.mpr ⟨hw, ?_⟩))
    show (!goodWord w) = true
    cases hgw : goodWord w
    · rfl
    · exact absurd hgw g
theorem vx_c {args : Array Value} {s : State} {w : Cond} {B : List Cond} (h : w.before args s = true) (t : ∀ w ∈ B, w.before args s = true) : ∀ w' ∈ w :: B, w'.before args s = true := fun w' h' => (List.mem_cons.mp h').elim (fun e => by rw [e]; exact h) (t w')
theorem vx_n {args : Array Value} {s : State} : ∀ w ∈ ([] : List Cond), w.before args s = true := fun _ h => nomatch h
theorem vx_own {args : Array Value} {s : State} {L : List Cond} (h1 : ∀ w ∈ L.filter vx_no, w.before args s = true)
    (hU : (Cond.isRef (.static Bundle.tN "UNASSIGNED_STACK" Bundle.steD)).before args s = true) (hN : (Cond.isRef (.static Bundle.tN "SUPPRESSED_SENTINEL" Bundle.listD)).before args s = true)
    (lU : (Cond.laysStatic Bundle.tN "UNASSIGNED_STACK" Bundle.steD).before args s = true) (lN : (Cond.laysStatic Bundle.tN "SUPPRESSED_SENTINEL" Bundle.listD).before args s = true) : ∀ w ∈ L, w.before args s = true := by
  intro w hw
  by_cases e1 : w = .isRef (.static Bundle.tN "UNASSIGNED_STACK" Bundle.steD)
  · rw [e1]; exact hU
  · by_cases e2 : w = .isRef (.static Bundle.tN "SUPPRESSED_SENTINEL" Bundle.listD)
    · rw [e2]; exact hN
    · by_cases e3 : w = .laysStatic Bundle.tN "UNASSIGNED_STACK" Bundle.steD
      · rw [e3]; exact lU
      · by_cases e4 : w = .laysStatic Bundle.tN "SUPPRESSED_SENTINEL" Bundle.listD
        · rw [e4]; exact lN
        · exact h1 w (List.mem_filter.mpr ⟨hw, by unfold vx_no; rw [decide_eq_true e1, decide_eq_true e2, decide_eq_true e3, decide_eq_true e4]; rfl⟩)
/-- where a static field lies, its class's statics cell in H -/
def vx_L (C n d : String) (A : Nat → Prop) (U : State) (H : Heap) : Prop := ∃ (c : ClassId) (k : Class) (i : Nat) (f : Field) (a : Nat) (cell : Cell), U.vm.findClass C = some c ∧ U.fieldFound? C n d = some (c, k, i, f) ∧ f.isStatic = true ∧ k.statics = some a ∧ H[a]? = some cell ∧ cell.vm.isStatics = true ∧ cell.cls = c ∧ f.slot < cell.slots.size ∧ k.staticTypes[f.slot]? = some f.type ∧ ¬ A a
theorem vx_L.moved {C n d : String} {A : Nat → Prop} {u U : State} {H : Heap} (hvm : u.vm.Alike U.vm) (h : vx_L C n d A u H) : vx_L C n d A U H := by
  obtain ⟨c, k, i, f, a, cell, h1, h2, h3, h4, h5, h6, h7, h8, h9, h10⟩ := h
  obtain ⟨k', hi', he⟩ := State.fieldFound?_setVm hvm h2
  exact ⟨c, k', i, f, a, cell, by rw [hvm.findClass]; exact h1, hi', h3, by rw [he]; exact h4, h5, h6, h7, h8, by rw [he]; exact h9, h10⟩
theorem vx_L.kept {C n d : String} {A : Nat → Prop} {U : State} {H H1 : Heap} (h : vx_L C n d A U H) (hq : ∀ a : Nat, a < H.size → ¬ A a → H1[a]? = H[a]?) : vx_L C n d A U H1 := by
  obtain ⟨c, k, i, f, a, cell, h1, h2, h3, h4, h5, h6, h7, h8, h9, h10⟩ := h
  exact ⟨c, k, i, f, a, cell, h1, h2, h3, h4, by rw [hq a (Array.getElem?_eq_some_iff.mp h5).1 h10]; exact h5, h6, h7, h8, h9, h10⟩
theorem vx_L.narrow {C n d : String} {A B : Nat → Prop} {U : State} {H : Heap} (h : vx_L C n d A U H) (hAB : ∀ q, B q → A q) : vx_L C n d B U H := by
  obtain ⟨c, k, i, f, a, cell, h1, h2, h3, h4, h5, h6, h7, h8, h9, h10⟩ := h
  exact ⟨c, k, i, f, a, cell, h1, h2, h3, h4, h5, h6, h7, h8, h9, fun z => h10 (hAB _ z)⟩
theorem vx_L.word {C n d : String} {A : Nat → Prop} {s : State} {args : Array Value} (h : vx_L C n d A s s.heap) : (Cond.laysStatic C n d).before args s = true := by
  obtain ⟨c, k, i, f, a, cell, h1, h2, h3, h4, h5, h6, h7, h8, h9, -⟩ := h
  show (Cond.laysStatic C n d).holds args s none s [] = true
  exact Cond.laysStatic_of h1 h2 h3 h4 h5 h6 h7 h8 h9
/-- .. and what it holds: null or some reference -/
def vx_Zq (C n d : String) (A : Nat → Prop) (U : State) (H : Heap) : Prop := va_Zq C n d A U H ∧ vx_L C n d A U H
theorem vx_Zq.moved {C n d : String} {A : Nat → Prop} {u U : State} {H : Heap} (hvm : u.vm.Alike U.vm) (h : vx_Zq C n d A u H) : vx_Zq C n d A U H := ⟨va_Zq.moved hvm h.1, vx_L.moved hvm h.2⟩
theorem vx_Zq.kept {C n d : String} {A : Nat → Prop} {U : State} {H H1 : Heap} (h : vx_Zq C n d A U H) (hq : ∀ a : Nat, a < H.size → ¬ A a → H1[a]? = H[a]?) : vx_Zq C n d A U H1 := ⟨va_Zq.kept h.1 hq, vx_L.kept h.2 hq⟩
theorem vx_Zq.narrow {C n d : String} {A B : Nat → Prop} {U : State} {H : Heap} (h : vx_Zq C n d A U H) (hAB : ∀ q, B q → A q) : vx_Zq C n d B U H := ⟨va_Zq.narrow h.1 hAB, vx_L.narrow h.2 hAB⟩
theorem vx_Zqof {args : Array Value} {s : State} {C n d : String} {A : Nat → Prop} (hl : (Cond.laysStatic C n d).before args s = true) (hini : (Cond.initialized C).before args s = true) (h : (Cond.isRef (.static C n d)).before args s = true) (hA : ∀ a : Nat, a < s.heap.size → ¬ A a) : vx_Zq C n d A s s.heap := by
  refine ⟨va_Zqof hl hini h hA, ?_⟩
  obtain ⟨c, k, i, f, a, cell, h1, h2, h3, h4, h5, h6, h7, h8, h9⟩ := Cond.laysStatic_spec hl
  exact ⟨c, k, i, f, a, cell, h1, h2, h3, h4, h5, h6, h7, h8, h9, hA a (Array.getElem?_eq_some_iff.mp h5).1⟩
theorem vx_isRef {C n d : String} {v : Value} {A : Nat → Prop} {s : State} {args : Array Value} (h : va_Z C n d v A s s.heap) (hv : v.isRef = true) : (Cond.isRef (.static C n d)).before args s = true := by
  obtain ⟨cf, kf, fi, f, a, cell, h1, h2, h3, h4, h5, h6, h7, -⟩ := h
  have he : (Term.static C n d).eval args s none [] s = some v := by
    simp [Term.eval, State.fieldNamed?, h1, h2, h4, h5, h6, h7]
  simp only [Cond.before, Cond.holds, Cond.value, he]
  cases v <;> simp_all [Value.isRef]
theorem vx_isRefq {C n d : String} {A : Nat → Prop} {s : State} {args : Array Value} (h : va_Zq C n d A s s.heap) : (Cond.isRef (.static C n d)).before args s = true := by
  rcases h with h | ⟨t, h⟩
  · exact vx_isRef h rfl
  · exact vx_isRef h rfl
/-- the same frame, seen from here: as if the method were called anew in this heap -/
theorem vx_rebase {T : State} (X : Stand p l e R s m args below meth c T locs cells slots) {R' : Room} (hf : R'.frames ≤ R.frames) (hl : R'.locals ≤ R.locals) (hc : cells + R'.cells ≤ R.cells) (hs : slots + R'.slots ≤ R.slots) :
    Stand p l e R' ((T.setVm s.vm).setFrames (.invoking m args :: below)) m args below meth c T [] 0 0 := by
  have htop : (T.setVm s.vm).topJava?.isSome := X.here.top
  have hF : ((T.setVm s.vm).setFrames (.invoking m args :: below)).frames = .invoking m args :: below := State.frames_setFrames _ (State.cur_lt_of_top htop)
  obtain ⟨g₀, hg0⟩ := Option.isSome_iff_exists.mp htop
  obtain ⟨r, hr⟩ := State.topJava?_eq_some.mp hg0
  have hl9 : e.platform.stackLimits (T.setVm s.vm).me = e.platform.stackLimits s.me := X.limits
  have hb9 : (T.setVm s.vm).me.stackBytes = s.me.stackBytes := X.bytes
  refine ⟨X.admits, X.cas, X.clock, hF, ?_, X.hears, X.method, X.code, X.here, X.tail, X.warmed, ?_, ?_, ?_⟩
  · have h := X.room
    have hU : ((T.setVm s.vm).setFrames (.invoking m args :: below)).localsInUse = s.localsInUse := by
      rw [State.localsInUse_invoking hF (meth := meth) (c := c) X.method X.code, State.localsInUse_invoking X.frames X.method X.code]
    simp only [State.hasRoom, Bool.and_eq_true, decide_eq_true_eq] at h ⊢
    obtain ⟨⟨⟨⟨h1, h2, h3, h4, h5, h6⟩, h7⟩, h8⟩, h9⟩ := h
    rw [X.frames, List.length_cons] at h2 h3
    have q1 := X.heapSize
    have q2 := X.used
    simp only [hF, hU, List.length_cons, State.stackLimits_setFrames, State.stackBytes_setFrames, hl9, hb9]
    refine ⟨⟨⟨⟨by omega, by omega, by omega, by omega, by omega, h6⟩, ?_⟩, ?_⟩, X.book⟩
    · show T.heap.size + R'.cells ≤ e.platform.maxCells
      omega
    · show T.slotsUsed + R'.slots ≤ e.platform.maxSlots
      omega
  · rw [State.stackLimits_setFrames]; rfl
  · rw [State.stackBytes_setFrames]; rfl
  · refine ⟨?_, Nat.le_refl _, Nat.le_refl _, ?_, ?_, fun a c9 h9 => ⟨c9, h9, rfl, rfl, fun _ _ => rfl⟩⟩
    · obtain ⟨t, ht, -⟩ := State.frames_cons hr
      show T.setVm s.vm = { ((T.setVm s.vm).setFrames (.invoking m args :: below)).setFrames (T.setVm s.vm).frames with heap := T.heap, slotsUsed := T.slotsUsed }
      rw [State.setFrames_setFrames, State.setFrames_self ht]
      rfl
    · show T.slotsUsed = T.slotsUsed + ((T.heap.toList.drop T.heap.size).map (·.slots.size)).sum
      rw [List.drop_eq_nil_of_le (Nat.le_of_eq Array.length_toList)]
      rfl
    · show ((T.heap.toList.drop T.heap.size).map (·.slots.size)).sum ≤ 0
      rw [List.drop_eq_nil_of_le (Nat.le_of_eq Array.length_toList)]
      exact Nat.le_refl _
/-- 'throw new E()': new; dup; invokespecial; athrow -/
theorem vx_throw0 {cc : ByteArray} {pc : Nat} (hexec : p.tables.exec = Jvm.exec) (hb : c.code = cc) (hl : l.stackTraces = false) {own cls : String} {names : List String} {ik ic mc ms : Nat} {A : Nat → Prop}
    (hown : s.vm.findClass own = some m.cls) (hcls : Bundle.fit cls = true) (hnames : ∀ n ∈ names, Bundle.fit n = true)
    (hk : (Cond.classLink own ik cls).before args s = true) (hini : (Cond.initialized cls).before args s = true) (hat : ∀ w ∈ vx_at0 own ic cls names, w.before args s = true)
    (hgood : ∀ w ∈ Cond.classLink own ik cls :: Cond.initialized cls :: vx_at0 own ic cls names, vx_ot w = true)
    (hU : vx_Zq Bundle.tN "UNASSIGNED_STACK" Bundle.steD A s s.heap) (hN : vx_Zq Bundle.tN "SUPPRESSED_SENTINEL" Bundle.listD A s s.heap) (hS : va_S A s.heap H locs) (hsize : ls.size = c.maxLocals)
    (d0 : decode cc pc = .ok (.new ik, 3)) (d3 : decode cc (pc + 3) = .ok (.dup, 1)) (d4 : decode cc (pc + 4) = .ok (.invokespecial ic, 3)) (d7 : decode cc (pc + 7) = .ok (.athrow, 1))
    (hout : ∀ x ∈ c.exceptionTable.toList, covers x (pc + 7) = false)
    (hRframes : names.length + 3 < R.frames) (hRlocals : (rest.map fun v => v.category).sum + (13 * (names.length + 1) + 42) ≤ R.locals) (hRcells : cells + 1 ≤ R.cells) (hRslots : slots + 6 ≤ R.slots) (hlocks : meth.locks = false)
    (hx : ∀ t : State, s.vm.Alike t.vm → H.size ≤ t.heap.size → (∀ q : Nat, q < H.size → t.heap[q]? = H[q]?) → XC cls s t)
    (hf : ∀ z ∈ locs, free z.base) (hc : cells + 1 ≤ mc) (hs : slots + 6 ≤ ms) :
    W p l e R s m args below meth c H locs cells slots (vx_MQ below Qc XC args s mc ms free) (F0 m pc ls rest) := by
  intro T hT X
  have htr : e.platform.stackTraces = false := (show e.platform.stackTraces = l.stackTraces by rw [X.admits.platform]).trans hl
  have Y := vx_rebase X (R' := { frames := R.frames, locals := R.locals, cells := 1, slots := 6 }) (Nat.le_refl _) (Nat.le_refl _) hRcells hRslots
  obtain ⟨s', hA⟩ : ∃ z, z = (T.setVm s.vm).setFrames (.invoking m args :: below) := ⟨_, rfl⟩
  rw [← hA] at Y
  have hvm : s'.vm = s.vm := by rw [hA]; rfl
  have hhp : s'.heap = H := by rw [hA]; exact hT
  have hW0 : s.WarmedH s'.vm := by rw [hvm]; exact State.WarmedH.refl s
  have hat' : ∀ w ∈ vx_at0 own ic cls names, w.before args s' = true := fun w hw => vx_ot_at hW0 hvm.symm (hgood w (List.mem_cons_of_mem _ (List.mem_cons_of_mem _ hw))) (hat w hw)
  have hk' : (Cond.classLink own ik cls).before args s' = true := vx_ot_at hW0 hvm.symm (hgood _ List.mem_cons_self) hk
  have hini' : (Cond.initialized cls).before args s' = true := vx_ot_at hW0 hvm.symm (hgood _ (List.mem_cons_of_mem _ List.mem_cons_self)) hini
  have hU' : vx_Zq Bundle.tN "UNASSIGNED_STACK" Bundle.steD A s' s'.heap := by rw [hhp]; exact vx_Zq.moved hW0.alike (hU.kept hS.2.1)
  have hN' : vx_Zq Bundle.tN "SUPPRESSED_SENTINEL" Bundle.listD A s' s'.heap := by rw [hhp]; exact vx_Zq.moved hW0.alike (hN.kept hS.2.1)
  have h : ∀ w ∈ Bundle.ownAtoms0 own ic cls names, w.before args s' = true := vx_own hat' (vx_isRefq hU'.1) (vx_isRefq hN'.1) hU'.2.word hN'.2.word
  have hown' : s'.vm.findClass own = some m.cls := by rw [hvm]; exact hown
  have hins : (Cond.instantiable cls 6).before args s' = true := h _ (by simp [Bundle.ownAtoms0])
  obtain ⟨vm₁, cX, kX, hfX, hkX, -, -, X₁, st1⟩ := Y.newCold hexec (own := own) (C := cls) (index := ik) (n := 6) hown' hk' hins hini'
    (g := F0 m pc ls rest) rfl (by rw [hb]; exact d0) (Nat.le_refl _) (Nat.le_refl _)
  generalize hT1 : (T.setVm vm₁).pushCell { cls := cX, slots := kX.instanceTypes.map defaultValue, vm := .none } = T1 at X₁ st1
  have hcat : (Value.ref T.heap.size).category = 1 := rfl
  have hcellA : T1.heap[T.heap.size]? = some (freshCell cX kX) := by rw [← hT1]; exact State.heap_pushCell_size _ _
  have d3' : decode c.code (pc + 3) = .ok (.dup, 1) := by rw [hb]; exact d3
  obtain ⟨U, hsteps, hrun, hend, hW, hsame, ce, hce, hO⟩ := X₁.ctorThrow0 hexec htr (own := own) (cls := cls) (names := names) (ic := ic) hown' hcls hnames h (fun x hx => nomatch hx) hfX hkX hcellA (by rw [hhp, hT]; exact Nat.le_refl _)
    (g := { method := m, pc := pc + 4, locals := ls, stack := .ref T.heap.size :: .ref T.heap.size :: rest, locked := none }) rfl hsize rfl rfl (rest := rest) rfl
    (by rw [hb]; exact d4) (by rw [hb]; exact d7) hout hRframes (by simp only [List.map_cons, List.sum_cons, hcat]; omega) hlocks
  obtain ⟨f1, f2⟩ := vx_frame hsame
  rw [hhp] at f1 f2
  have hWs : s.WarmedH U.vm := State.WarmedH.trans hW0 hW
  have hcl : s.vm.findClass cls = some ce.cls := by
    have h9 := hO.cls
    rw [hvm] at h9
    exact h9
  have hall : s.sameButNew ({ U with vm := s.vm } : State) locs mc ms := by
    subst hA
    obtain ⟨e1, e2⟩ := hsame
    rw [State.setFrames_setFrames] at e1
    have h2 : (T.setVm s.vm).sameButNew ({ U with vm := s.vm } : State) [] (0 + 1) (0 + 6) := ⟨e1, e2⟩
    have h3 := X.same.trans h2
    rw [List.append_nil] at h3
    exact h3.mono hc hs
  refine ⟨U, ?_, .threw T.heap.size, hrun, hend, Or.inr ⟨T.heap.size, rfl, cls, ce, locs, hx U hWs.alike f1 (fun q hq => f2 q hq (fun z hz => nomatch hz)), hce, hO.vm, hcl, hWs, hall, hf⟩⟩
  refine st1 _ ?_
  show Steps p.tables e below (T1.setTop { method := m, pc := pc + 3, locals := ls, stack := .ref T.heap.size :: rest, locked := none }) _
  jvm_step X₁.here [X₁.here.top, hexec, d3', Value.category]
  exact hsteps
/-- 'throw new E("text")': new; dup; ldc; invokespecial; athrow -/
theorem vx_throwS {cc : ByteArray} {pc : Nat} (hexec : p.tables.exec = Jvm.exec) (hb : c.code = cc) (hl : l.stackTraces = false) {own cls text : String} {names : List String} {ik is ic mc ms sa : Nat} {A : Nat → Prop}
    (hown : s.vm.findClass own = some m.cls) (hcls : Bundle.fit cls = true) (hnames : ∀ n ∈ names, Bundle.fit n = true)
    (hk : (Cond.classLink own ik cls).before args s = true) (hini : (Cond.initialized cls).before args s = true) (hstr : vk_R own is text sa s) (hat : ∀ w ∈ vx_atS own ic cls names, w.before args s = true)
    (hgood : ∀ w ∈ Cond.classLink own ik cls :: Cond.initialized cls :: vx_atS own ic cls names, vx_ot w = true)
    (hU : vx_Zq Bundle.tN "UNASSIGNED_STACK" Bundle.steD A s s.heap) (hN : vx_Zq Bundle.tN "SUPPRESSED_SENTINEL" Bundle.listD A s s.heap) (hS : va_S A s.heap H locs) (hsize : ls.size = c.maxLocals)
    (d0 : decode cc pc = .ok (.new ik, 3)) (d3 : decode cc (pc + 3) = .ok (.dup, 1)) (d4 : decode cc (pc + 4) = .ok (.ldc is, 2)) (d6 : decode cc (pc + 6) = .ok (.invokespecial ic, 3)) (d9 : decode cc (pc + 9) = .ok (.athrow, 1))
    (hout : ∀ x ∈ c.exceptionTable.toList, covers x (pc + 9) = false)
    (hRframes : names.length + 3 < R.frames) (hRlocals : (rest.map fun v => v.category).sum + (13 * (names.length + 1) + 43) ≤ R.locals) (hRcells : cells + 1 ≤ R.cells) (hRslots : slots + 6 ≤ R.slots) (hlocks : meth.locks = false)
    (hx : ∀ t : State, s.vm.Alike t.vm → H.size ≤ t.heap.size → (∀ q : Nat, q < H.size → t.heap[q]? = H[q]?) → XC cls s t)
    (hf : ∀ z ∈ locs, free z.base) (hc : cells + 1 ≤ mc) (hs : slots + 6 ≤ ms) :
    W p l e R s m args below meth c H locs cells slots (vx_MQ below Qc XC args s mc ms free) (F0 m pc ls rest) := by
  intro T hT X
  have htr : e.platform.stackTraces = false := (show e.platform.stackTraces = l.stackTraces by rw [X.admits.platform]).trans hl
  have Y := vx_rebase X (R' := { frames := R.frames, locals := R.locals, cells := 1, slots := 6 }) (Nat.le_refl _) (Nat.le_refl _) hRcells hRslots
  obtain ⟨s', hA⟩ : ∃ z, z = (T.setVm s.vm).setFrames (.invoking m args :: below) := ⟨_, rfl⟩
  rw [← hA] at Y
  have hvm : s'.vm = s.vm := by rw [hA]; rfl
  have hhp : s'.heap = H := by rw [hA]; exact hT
  have hW0 : s.WarmedH s'.vm := by rw [hvm]; exact State.WarmedH.refl s
  have hat' : ∀ w ∈ vx_atS own ic cls names, w.before args s' = true := fun w hw => vx_ot_at hW0 hvm.symm (hgood w (List.mem_cons_of_mem _ (List.mem_cons_of_mem _ hw))) (hat w hw)
  have hk' : (Cond.classLink own ik cls).before args s' = true := vx_ot_at hW0 hvm.symm (hgood _ List.mem_cons_self) hk
  have hini' : (Cond.initialized cls).before args s' = true := vx_ot_at hW0 hvm.symm (hgood _ (List.mem_cons_of_mem _ List.mem_cons_self)) hini
  have hU' : vx_Zq Bundle.tN "UNASSIGNED_STACK" Bundle.steD A s' s'.heap := by rw [hhp]; exact vx_Zq.moved hW0.alike (hU.kept hS.2.1)
  have hN' : vx_Zq Bundle.tN "SUPPRESSED_SENTINEL" Bundle.listD A s' s'.heap := by rw [hhp]; exact vx_Zq.moved hW0.alike (hN.kept hS.2.1)
  have h : ∀ w ∈ Bundle.ownAtoms own ic cls names, w.before args s' = true := vx_own hat' (vx_isRefq hU'.1) (vx_isRefq hN'.1) hU'.2.word hN'.2.word
  have hown' : s'.vm.findClass own = some m.cls := by rw [hvm]; exact hown
  have hins : (Cond.instantiable cls 6).before args s' = true := h _ (by simp [Bundle.ownAtoms])
  obtain ⟨vm₁, cX, kX, hfX, hkX, -, -, X₁, st1⟩ := Y.newCold hexec (own := own) (C := cls) (index := ik) (n := 6) hown' hk' hins hini'
    (g := F0 m pc ls rest) rfl (by rw [hb]; exact d0) (Nat.le_refl _) (Nat.le_refl _)
  generalize hT1 : (T.setVm vm₁).pushCell { cls := cX, slots := kX.instanceTypes.map defaultValue, vm := .none } = T1 at X₁ st1
  have hcat : (Value.ref T.heap.size).category = 1 := rfl
  have hcellA : T1.heap[T.heap.size]? = some (freshCell cX kX) := by rw [← hT1]; exact State.heap_pushCell_size _ _
  have d3' : decode c.code (pc + 3) = .ok (.dup, 1) := by rw [hb]; exact d3
  have d4' : decode c.code (pc + 4) = .ok (.ldc is, 2) := by rw [hb]; exact d4
  have hstr' : vk_R own is text sa s' := vk_R.warm hW0 hstr
  obtain ⟨U, hsteps, hrun, hend, hW, hsame, ce, hce, hO⟩ := X₁.ctorThrowS hexec htr (own := own) (cls := cls) (names := names) (ic := ic) hown' hcls hnames h (fun x hx => nomatch hx) hfX hkX hcellA (by rw [hhp, hT]; exact Nat.le_refl _) (msg := .ref sa) rfl
    (g := { method := m, pc := pc + 6, locals := ls, stack := .ref sa :: .ref T.heap.size :: .ref T.heap.size :: rest, locked := none }) rfl hsize rfl rfl (rest := rest) rfl
    (by rw [hb]; exact d6) (by rw [hb]; exact d9) hout hRframes (by simp only [List.map_cons, List.sum_cons, hcat]; omega) hlocks
  obtain ⟨f1, f2⟩ := vx_frame hsame
  rw [hhp] at f1 f2
  have hWs : s.WarmedH U.vm := State.WarmedH.trans hW0 hW
  have hcl : s.vm.findClass cls = some ce.cls := by
    have h9 := hO.cls
    rw [hvm] at h9
    exact h9
  have hall : s.sameButNew ({ U with vm := s.vm } : State) locs mc ms := by
    subst hA
    obtain ⟨e1, e2⟩ := hsame
    rw [State.setFrames_setFrames] at e1
    have h2 : (T.setVm s.vm).sameButNew ({ U with vm := s.vm } : State) [] (0 + 1) (0 + 6) := ⟨e1, e2⟩
    have h3 := X.same.trans h2
    rw [List.append_nil] at h3
    exact h3.mono hc hs
  refine ⟨U, ?_, .threw T.heap.size, hrun, hend, Or.inr ⟨T.heap.size, rfl, cls, ce, locs, hx U hWs.alike f1 (fun q hq => f2 q hq (fun z hz => nomatch hz)), hce, hO.vm, hcl, hWs, hall, hf⟩⟩
  refine st1 _ ?_
  show Steps p.tables e below (T1.setTop { method := m, pc := pc + 3, locals := ls, stack := .ref T.heap.size :: rest, locked := none }) _
  jvm_step X₁.here [X₁.here.top, hexec, d3', Value.category]
  exact X₁.ldcString hexec (own := own) (text := text) (index := is) (a := sa) hown' hstr'.1 hstr'.2
    (g := { method := m, pc := pc + 4, locals := ls, stack := .ref T.heap.size :: .ref T.heap.size :: rest, locked := none }) rfl d4' _ hsteps
/-- 'throw new E("text")', the text by a wide index -/
theorem vx_throwSW {cc : ByteArray} {pc : Nat} (hexec : p.tables.exec = Jvm.exec) (hb : c.code = cc) (hl : l.stackTraces = false) {own cls text : String} {names : List String} {ik is ic mc ms sa : Nat} {A : Nat → Prop}
    (hown : s.vm.findClass own = some m.cls) (hcls : Bundle.fit cls = true) (hnames : ∀ n ∈ names, Bundle.fit n = true)
    (hk : (Cond.classLink own ik cls).before args s = true) (hini : (Cond.initialized cls).before args s = true) (hstr : vk_R own is text sa s) (hat : ∀ w ∈ vx_atS own ic cls names, w.before args s = true)
    (hgood : ∀ w ∈ Cond.classLink own ik cls :: Cond.initialized cls :: vx_atS own ic cls names, vx_ot w = true)
    (hU : vx_Zq Bundle.tN "UNASSIGNED_STACK" Bundle.steD A s s.heap) (hN : vx_Zq Bundle.tN "SUPPRESSED_SENTINEL" Bundle.listD A s s.heap) (hS : va_S A s.heap H locs) (hsize : ls.size = c.maxLocals)
    (d0 : decode cc pc = .ok (.new ik, 3)) (d3 : decode cc (pc + 3) = .ok (.dup, 1)) (d4 : decode cc (pc + 4) = .ok (.ldc_w is, 3)) (d7 : decode cc (pc + 7) = .ok (.invokespecial ic, 3)) (d10 : decode cc (pc + 10) = .ok (.athrow, 1))
    (hout : ∀ x ∈ c.exceptionTable.toList, covers x (pc + 10) = false)
    (hRframes : names.length + 3 < R.frames) (hRlocals : (rest.map fun v => v.category).sum + (13 * (names.length + 1) + 43) ≤ R.locals) (hRcells : cells + 1 ≤ R.cells) (hRslots : slots + 6 ≤ R.slots) (hlocks : meth.locks = false)
    (hx : ∀ t : State, s.vm.Alike t.vm → H.size ≤ t.heap.size → (∀ q : Nat, q < H.size → t.heap[q]? = H[q]?) → XC cls s t)
    (hf : ∀ z ∈ locs, free z.base) (hc : cells + 1 ≤ mc) (hs : slots + 6 ≤ ms) :
    W p l e R s m args below meth c H locs cells slots (vx_MQ below Qc XC args s mc ms free) (F0 m pc ls rest) := by
  intro T hT X
  have htr : e.platform.stackTraces = false := (show e.platform.stackTraces = l.stackTraces by rw [X.admits.platform]).trans hl
  have Y := vx_rebase X (R' := { frames := R.frames, locals := R.locals, cells := 1, slots := 6 }) (Nat.le_refl _) (Nat.le_refl _) hRcells hRslots
  obtain ⟨s', hA⟩ : ∃ z, z = (T.setVm s.vm).setFrames (.invoking m args :: below) := ⟨_, rfl⟩
  rw [← hA] at Y
  have hvm : s'.vm = s.vm := by rw [hA]; rfl
  have hhp : s'.heap = H := by rw [hA]; exact hT
  have hW0 : s.WarmedH s'.vm := by rw [hvm]; exact State.WarmedH.refl s
  have hat' : ∀ w ∈ vx_atS own ic cls names, w.before args s' = true := fun w hw => vx_ot_at hW0 hvm.symm (hgood w (List.mem_cons_of_mem _ (List.mem_cons_of_mem _ hw))) (hat w hw)
  have hk' : (Cond.classLink own ik cls).before args s' = true := vx_ot_at hW0 hvm.symm (hgood _ List.mem_cons_self) hk
  have hini' : (Cond.initialized cls).before args s' = true := vx_ot_at hW0 hvm.symm (hgood _ (List.mem_cons_of_mem _ List.mem_cons_self)) hini
  have hU' : vx_Zq Bundle.tN "UNASSIGNED_STACK" Bundle.steD A s' s'.heap := by rw [hhp]; exact vx_Zq.moved hW0.alike (hU.kept hS.2.1)
  have hN' : vx_Zq Bundle.tN "SUPPRESSED_SENTINEL" Bundle.listD A s' s'.heap := by rw [hhp]; exact vx_Zq.moved hW0.alike (hN.kept hS.2.1)
  have h : ∀ w ∈ Bundle.ownAtoms own ic cls names, w.before args s' = true := vx_own hat' (vx_isRefq hU'.1) (vx_isRefq hN'.1) hU'.2.word hN'.2.word
  have hown' : s'.vm.findClass own = some m.cls := by rw [hvm]; exact hown
  have hins : (Cond.instantiable cls 6).before args s' = true := h _ (by simp [Bundle.ownAtoms])
  obtain ⟨vm₁, cX, kX, hfX, hkX, -, -, X₁, st1⟩ := Y.newCold hexec (own := own) (C := cls) (index := ik) (n := 6) hown' hk' hins hini'
    (g := F0 m pc ls rest) rfl (by rw [hb]; exact d0) (Nat.le_refl _) (Nat.le_refl _)
  generalize hT1 : (T.setVm vm₁).pushCell { cls := cX, slots := kX.instanceTypes.map defaultValue, vm := .none } = T1 at X₁ st1
  have hcat : (Value.ref T.heap.size).category = 1 := rfl
  have hcellA : T1.heap[T.heap.size]? = some (freshCell cX kX) := by rw [← hT1]; exact State.heap_pushCell_size _ _
  have d3' : decode c.code (pc + 3) = .ok (.dup, 1) := by rw [hb]; exact d3
  have d4' : decode c.code (pc + 4) = .ok (.ldc_w is, 3) := by rw [hb]; exact d4
  have hstr' : vk_R own is text sa s' := vk_R.warm hW0 hstr
  obtain ⟨U, hsteps, hrun, hend, hW, hsame, ce, hce, hO⟩ := X₁.ctorThrowS hexec htr (own := own) (cls := cls) (names := names) (ic := ic) hown' hcls hnames h (fun x hx => nomatch hx) hfX hkX hcellA (by rw [hhp, hT]; exact Nat.le_refl _) (msg := .ref sa) rfl
    (g := { method := m, pc := pc + 7, locals := ls, stack := .ref sa :: .ref T.heap.size :: .ref T.heap.size :: rest, locked := none }) rfl hsize rfl rfl (rest := rest) rfl
    (by rw [hb]; exact d7) (by rw [hb]; exact d10) hout hRframes (by simp only [List.map_cons, List.sum_cons, hcat]; omega) hlocks
  obtain ⟨f1, f2⟩ := vx_frame hsame
  rw [hhp] at f1 f2
  have hWs : s.WarmedH U.vm := State.WarmedH.trans hW0 hW
  have hcl : s.vm.findClass cls = some ce.cls := by
    have h9 := hO.cls
    rw [hvm] at h9
    exact h9
  have hall : s.sameButNew ({ U with vm := s.vm } : State) locs mc ms := by
    subst hA
    obtain ⟨e1, e2⟩ := hsame
    rw [State.setFrames_setFrames] at e1
    have h2 : (T.setVm s.vm).sameButNew ({ U with vm := s.vm } : State) [] (0 + 1) (0 + 6) := ⟨e1, e2⟩
    have h3 := X.same.trans h2
    rw [List.append_nil] at h3
    exact h3.mono hc hs
  refine ⟨U, ?_, .threw T.heap.size, hrun, hend, Or.inr ⟨T.heap.size, rfl, cls, ce, locs, hx U hWs.alike f1 (fun q hq => f2 q hq (fun z hz => nomatch hz)), hce, hO.vm, hcl, hWs, hall, hf⟩⟩
  refine st1 _ ?_
  show Steps p.tables e below (T1.setTop { method := m, pc := pc + 3, locals := ls, stack := .ref T.heap.size :: rest, locked := none }) _
  jvm_step X₁.here [X₁.here.top, hexec, d3', Value.category]
  exact X₁.ldcStringW hexec (own := own) (text := text) (index := is) (a := sa) hown' hstr'.1 hstr'.2
    (g := { method := m, pc := pc + 4, locals := ls, stack := .ref T.heap.size :: .ref T.heap.size :: rest, locked := none }) rfl d4' _ hsteps
end Ends
section Bodies
variable {l : Launch}
theorem vx_ofW {y : MethodName} {ws ws' : List Cond} {rm : Room} {Pc : Array Value → State → Prop} {Qc : Array Value → State → Outcome → State → Prop} {XC : String → State → State → Prop} {mc ms : Nat} {free : Addr → Prop} {cc : ByteArray} {maxL : Nat} {ret : Option FieldType}
    (hy : plainName y.cls = true) (hw : ws = Cond.code y cc maxL ret :: ws')
    (body : ∀ p e s m args below meth c s₁, BodyLoose p l y (headSpec ws rm) cc maxL ret e s m args below meth c s₁ → c.maxLocals = maxL → (∀ x ∈ c.exceptionTable.toList, False) → Pc args s →
      W p l e (headSpec ws rm).room s m args below meth c s.heap [] 0 0 (vx_MQ below Qc XC args s mc ms free) (entryFrame m args maxL)) : vx_Met l y ws rm Pc Qc XC mc ms free := by
  refine MetFree.of_bodyS (code := cc) (maxLocals := maxL) (ret := ret) hy ?_ ?_
  · intro args s m h hn
    obtain ⟨meth, c, h1, h2, h3, h4, h5, h6, -, -⟩ := Cond.code_spec hn (atoms_spec (ws := ws) h _ (by rw [hw]; exact List.mem_cons_self))
    exact ⟨meth, c, h1, h2, h3, h4, h5, h6⟩
  · intro p e s m args below meth c s₁ B hml hP _
    have hh0 : s₁.heap = s.heap := by rw [B.state]; rfl
    have ht : ∀ x ∈ c.exceptionTable.toList, False := by
      obtain ⟨meth9, c9, h1, h2, -, -, -, -, h7, -⟩ := Cond.code_spec B.named (atoms_spec (ws := ws) B.pre _ (by rw [hw]; exact List.mem_cons_self))
      cases Option.some.inj (h1.symm.trans B.method)
      cases Option.some.inj (h2.symm.trans (Stand.of_body B).code)
      intro x hx
      rw [Array.isEmpty_iff.mp h7] at hx
      cases hx
    obtain ⟨t, a1, o, b1, b2, b3⟩ := body p e s m args below meth c s₁ B hml ht hP s₁ hh0 (Stand.of_body B)
    exact ⟨t, o, a1, b1, b2, b3⟩
/-- the table of a body with handlers -/
theorem vx_table {p : Program} {x y : MethodName} {S : Spec} {cc bytes : ByteArray} {maxL maxL' : Nat} {ret ret' : Option FieldType} {e : Env} {s s₁ : State} {m : MethodId} {args : Array Value} {below : List Frame} {meth : Method} {c : Code} {hh : List (Nat × Nat × Nat × Nat)}
    (B : BodyLoose p l y S cc maxL ret e s m args below meth c s₁) (h : (Cond.codeWith y bytes maxL' ret' hh).before args s = true) : c.exceptionTable.toList = tableOf hh := by
  obtain ⟨m9, meth9, c9, hn9, h1, h2, -, -, h6, -⟩ := Cond.codeWith_spec h
  cases Option.some.inj (hn9.symm.trans B.named)
  cases Option.some.inj (h1.symm.trans B.method)
  cases Option.some.inj (h2.symm.trans (Stand.of_body B).code)
  rw [← h6, table_eq]
end Bodies
end VXA
/-! ===== END ===== -/
/-! ===== BEGIN a static call of a method with an exception table ===== -/
section VXS
variable {p : Program} {l : Launch} {e : Env} {R : Room} {s : State} {m : MethodId} {args : Array Value} {below : List Frame} {meth : Method} {c : Code} {T : State} {H : Heap} {locs : List Loc} {cells slots : Nat}
abbrev vx_CSW (R : Room) (s : State) (args : Array Value) (own : String) (index : Nat) (y : MethodName) (bytes : ByteArray) (maxL : Nat) (ret : Option FieldType) (hh : List (Nat × Nat × Nat × Nat)) (ws : List Cond) (rm : Room) (mc ms n : Nat) : Prop :=
  (rm.cells = mc ∧ rm.slots = ms ∧ rm.frames + 1 ≤ R.frames ∧ 8 + (maxL + 11) + rm.locals ≤ R.locals ∧ (∀ w ∈ ws, ∀ (a' : Array Value) (U : State), s.WarmedH U.vm → w.before a' U = true) ∧ Cond.codeWith y bytes maxL ret hh ∈ ws) ∧
  (Cond.codeWith y bytes maxL ret hh).before args s = true ∧ (Cond.initialized y.cls).before args s = true ∧ (y.cls ≠ "java/lang/invoke/MethodHandle" ∧ y.cls ≠ "java/lang/invoke/VarHandle") ∧
  (∀ sig, parseMethodDescriptor y.desc = some sig → n = sig.parameters.length) ∧ (Cond.methodLink own index y).before args s = true ∧ (Cond.static y).before args s = true
theorem vx_cwSW {own : String} {index maxL mc ms : Nat} {y : MethodName} {bytes : ByteArray} {ret : Option FieldType} {hh : List (Nat × Nat × Nat × Nat)} {Ts ws ws' : List Cond} {rm : Room} (n : Nat) (ht : ∀ w ∈ Ts, w.before args s = true) (hT : GoodIn Ts (va_wsS own index y ws)) (hw : ws = Cond.codeWith y bytes maxL ret hh :: ws') (hrc : rm.cells = mc) (hrs : rm.slots = ms)
    (hd : y.cls ≠ "java/lang/invoke/MethodHandle" ∧ y.cls ≠ "java/lang/invoke/VarHandle" ∧ (parseMethodDescriptor y.desc).map (fun d => d.parameters.length) = some n) (hR : rm.frames + 1 ≤ R.frames ∧ 8 + (maxL + 11) + rm.locals ≤ R.locals) :
    vx_CSW R s args own index y bytes maxL ret hh ws rm mc ms n := by
  have ok : ∀ w ∈ va_wsS own index y ws, w.before args s = true := fun w h => ht w (hT w h).1
  have hG : GoodIn Ts ws := fun w h => hT w (by unfold va_wsS; exact List.mem_append_right _ h)
  have hc : Cond.codeWith y bytes maxL ret hh ∈ ws := by rw [hw]; exact List.mem_cons_self
  refine ⟨⟨hrc, hrs, hR.1, hR.2, pay_in ht hG, hc⟩, ht _ (hG _ hc).1, ok _ (by simp [va_wsS]), ⟨hd.1, hd.2.1⟩, fun sig h => ?_, ok _ (by simp [va_wsS]), ok _ (by simp [va_wsS])⟩
  have h2 := hd.2.2
  rw [h] at h2
  exact (Option.some.inj h2).symm
theorem vx_callSW (X : Stand p l e R s m args below meth c T locs cells slots) (hexec : p.tables.exec = Jvm.exec) {own : String} {index : Nat} {y : MethodName} {bytes : ByteArray} {maxL : Nat} {ret : Option FieldType} {hh : List (Nat × Nat × Nat × Nat)}
    (hown : s.vm.findClass own = some m.cls) (hlink : (Cond.methodLink own index y).before args s = true) (hstat : (Cond.static y).before args s = true) (hinit : (Cond.initialized y.cls).before args s = true)
    (hcode : (Cond.codeWith y bytes maxL ret hh).before args s = true) (hy : y.cls ≠ "java/lang/invoke/MethodHandle" ∧ y.cls ≠ "java/lang/invoke/VarHandle")
    {W9 : Nat} {Pre : Pt → Array Value → Prop} {Post : Pt → Array Value → Option Value → Pt → Prop} (hK : Back l R p e below s args y 3 W9 Pre Post)
    {g : JFrame} (hg : g.method = m) (hsize : g.locals.size = c.maxLocals) {argsL rest : List Value} (hlen : ∀ sig, parseMethodDescriptor y.desc = some sig → argsL.length = sig.parameters.length)
    (hstack : g.stack = argsL.reverse ++ rest) (hW : 2 * g.monitorRoom + (rest.map fun v => v.category).sum ≤ W9) (hdg : decode c.code g.pc = .ok (.invokestatic index, 3))
    (hpre : ∀ vm₁, s.WarmedH vm₁ → Pre ⟨T.setVm vm₁, locs, cells, slots⟩ argsL.toArray) :
    ∃ (v : Option Value) (vm₁ : Vm) (B : Pt), s.WarmedH vm₁ ∧ Stand p l e R s m args below meth c B.U B.locs B.cells B.slots ∧ Post ⟨T.setVm vm₁, locs, cells, slots⟩ argsL.toArray v B ∧
      ∀ target, Steps p.tables e below (B.U.setTop { g with pc := g.pc + 3, stack := v.toList ++ rest }) target → Steps p.tables e below (T.setTop g) target := by
  obtain ⟨mk, methM, cM, hnamed, hmethM, -, -, -, -, -, -, hsigM⟩ := Cond.codeWith_spec hcode
  have hstatic : methM.isStatic = true := Cond.static_spec hnamed hmethM hstat
  obtain ⟨kP, hkP, -⟩ := className_of_methodNamed hnamed
  have hinitP : kP.init = .initialized := Cond.initialized_spec (findClass_of_methodNamed hnamed) hkP hinit
  obtain ⟨vm₁, X₁, hstep₁⟩ := X.invokestatic hexec hown hlink hnamed hmethM hstatic hkP hinitP hy (g := g) hg (argsL := argsL) (rest := rest) (hlen _ hsigM) hstack hdg
  obtain ⟨v, B, X', hpost, hsteps⟩ := hK m meth c ⟨T.setVm vm₁, locs, cells, slots⟩ { g with stack := rest } (.invokestatic index) mk argsL.toArray X₁ hg hsize hdg hW (X₁.named hnamed) (hpre vm₁ X₁.warmed)
  exact ⟨v, vm₁, B, X₁.warmed, X', hpost, fun target h => hstep₁ _ fun acts => by rw [doInvoke_state]; exact hsteps.trans h⟩
theorem vx_runSW {y : MethodName} {bytes cc : ByteArray} {maxL nL mc ms n index : Nat} {ret : Option FieldType} {hh : List (Nat × Nat × Nat × Nat)} {ws : List Cond} {rm : Room} {Pc : Array Value → State → Prop} {Qc : Array Value → State → Outcome → State → Prop} {free : Addr → Prop} {Ts : List Cond} {own : String} {As rest : List Value} {g : JFrame}
    (S : CallFix p m c cc nL s args Ts own) (hM : Met l y ws rm Pc Qc mc ms free) (cw : vx_CSW R s args own index y bytes maxL ret hh ws rm mc ms n) (hp : PreS s H Pc As)
    (hg : g.method = m) (hn : As.length = n) (hsize : g.locals.size = nL) (hstack : g.stack = As.reverse ++ rest) (hW : 2 * g.monitorRoom + (rest.map fun v => v.category).sum ≤ 8) (hdg : decode cc g.pc = .ok (.invokestatic index, 3)) (hf : cells + mc ≤ R.cells ∧ slots + ms ≤ R.slots) :
    va_Run p l e R s m args below meth c H locs cells slots mc ms g rest (Qc As.toArray) (free) := by
  obtain ⟨⟨hrc, hrs, hfr, hlo, hws, hcw⟩, hcode, hini, hy, hlen, hl, hstt⟩ := cw
  have hK : Back l R p e below s args y 3 8 (PreOf R mc ms Pc) (PostOf Qc mc ms free) := va_backW (hh := hh) (bytes := bytes) (maxL := maxL) (ret := ret) hM hp.1 hrc hrs hfr hlo hws hcw (fun a' U hW => word_at hW (Or.inl (by first | rfl | simp [Cond.onTables, Cond.keeps, Cond.steady])) hini)
  obtain ⟨hx, hb, hml, ho, -⟩ := S
  intro T hT X
  obtain ⟨v, vm₁, ⟨U', l2, c2, s2⟩, hW₁, X', ⟨g', mk, t, L, e1, e2, hq, h1, hL, h2, h3⟩, st⟩ := vx_callSW X hx (hh := hh) (bytes := bytes) (maxL := maxL) (ret := ret) ho hl hstt hini hcode hy hK hg (hsize.trans hml.symm) (argsL := As) (rest := rest) (fun sig h => hn.trans (hlen sig h)) hstack hW (by rw [hb]; exact hdg)
    (fun vm₁ hW₁ => ⟨hf.1, hf.2, hp.2 (T.setVm vm₁) hT hW₁⟩)
  dsimp only [Pt.U, Pt.locs, Pt.cells, Pt.slots] at X' e1 e2 h1 h2 h3 st
  subst h1; subst h2; subst h3
  exact ⟨v, (T.setVm vm₁).calling g' mk As.toArray, t, U', L, hT, X', hL, e1, e2, hq, st⟩
/-- not caught here, past rows that name other classes: it goes on to the caller -/
theorem vx_outP {p : Program} {l : Launch} {e : Env} {R : Room} {s : State} {m : MethodId} {args : Array Value} {below : List Frame} {meth : Method} {c : Code} {H : Heap} {locs : List Loc} {cells slots : Nat} {free : Addr → Prop} {ls : Array Slot} {rest : List Value} {Qc : Array Value → State → Outcome → State → Prop} {XC : String → State → State → Prop}
    {pc : Nat} {own E : String} {ce : Cell} {q : Addr} {mc ms : Nat} (hown : s.vm.findClass own = some m.cls) (hlocks : meth.locks = false)
    (hpass : ∀ z ∈ c.exceptionTable.toList, covers z pc = false ∨ (z.catchType ≠ 0 ∧ ∃ nm : String, (Cond.classLink own z.catchType nm).before args s = true ∧ va_Nc E nm s)) (hcell : H[q]? = some ce) (hv : ce.vm = .none) (hcl : s.vm.findClass E = some ce.cls)
    (hx : ∀ t : State, t.heap = H → s.vm.Alike t.vm → XC E s t) (hf : ∀ z ∈ locs, free z.base) (hc : cells ≤ mc) (hs : slots ≤ ms) :
    vx_W p l e R s m args below meth c H locs cells slots (vx_MQ below Qc XC args s mc ms free) (F0 m pc ls rest) q := by
  intro T hT X
  have hpl : e.platform.magicAccessors = ({} : Platform).magicAccessors := by rw [X.admits.platform]
  obtain ⟨vm', hW', X', st⟩ := X.outThrough hlocks q (g := F0 m pc ls rest) rfl rfl rfl (cell := ce) (by rw [hT]; exact hcell) (by rw [hv]; rfl)
    (by obtain ⟨k9, h9, -⟩ := Vm.findClass_spec hcl; exact ⟨k9, h9⟩) (fun z hz => by
      rcases hpass z hz with h | ⟨hz0, nm, hl1, hn1⟩
      · exact Or.inl h
      · obtain ⟨c6, hc6, hcl6⟩ := Cond.classLink_spec hown hl1 e.platform hpl
        obtain ⟨a8, b8, h1, h2, h3⟩ := hn1
        cases Option.some.inj (h1.symm.trans hcl)
        cases Option.some.inj (h2.symm.trans hc6)
        exact Or.inr ⟨hz0, _, hcl6, h3⟩)
  obtain ⟨g₀, hfr⟩ := X'.frames_eq
  have hcell9 : ((T.setVm vm').setFrames (.throwing q :: below)).heap[q]? = some ce := by
    show T.heap[q]? = some ce
    rw [hT]; exact hcell
  have hend : Ended ((T.setVm vm').setFrames (.throwing q :: below)) below (.threw q) := State.frames_setFrames _ (State.cur_lt_of_frames hfr)
  refine ⟨(T.setVm vm').setFrames (.throwing q :: below), ?_, .threw q, X'.here.running, hend, Or.inr ⟨q, rfl, E, ce, locs, hx _ hT (X'.ends _).1.alike, hcell9, hv, hcl, (X'.ends _).1, (X'.ends _).2.mono hc hs, hf⟩⟩
  rw [X.pushThrowing_eq]
  exact st
/-- a thing of a world lies in the heap -/
theorem vx_lt {D : va_G} {cl : List vw_C} {ws : va_W} {H1 : Heap} (h : va_P D cl ws H1) {k : Nat} {q : Nat × va_E} (hk : ws[k]? = some q) : q.1 < H1.size := (h k q hk).lt
end VXS
/-! ===== END ===== -/
/-! ===== BEGIN methods with a table of their own: called by a name, returning or throwing ===== -/
section VXH
/-! vx_backW, vx_callVX, vx_callSX, vx_callVW, vx_runVW, vx_runVX, vx_runSX, vx_ofWH follow the same proofs as their sisters above (Free/Laws.lean, Shelf42/LK1.lean); vx_outP calls Shelf42/NT130.lean (outThrough). -/
section
variable {l : Launch} {R : Room} {p : Program} {e : Env} {below : List Frame} {s : State} {sargs : Array Value} {y : MethodName} {len W9 : Nat}
theorem vx_backW {ws : List Cond} {rm : Room} {Pc : Array Value → State → Prop} {Qc : Array Value → State → Outcome → State → Prop} {XC : String → State → State → Prop} {mc ms : Nat} {free : Addr → Prop} {bytes : ByteArray} {maxL : Nat} {ret : Option FieldType} {hh : List (Nat × Nat × Nat × Nat)}
    (hM : vx_Met l y ws rm Pc Qc XC mc ms free) (hblind : FrameBlind Pc) (hrc : rm.cells = mc) (hrs : rm.slots = ms)
    (hframes : rm.frames + 1 ≤ R.frames) (hlocals : W9 + (maxL + 11) + rm.locals ≤ R.locals)
    (hws : ∀ w ∈ ws, ∀ a' U, s.WarmedH U.vm → w.before a' U = true) (hcode : Cond.codeWith y bytes maxL ret hh ∈ ws) (hinit : ∀ a' U, s.WarmedH U.vm → (Cond.initialized y.cls).before a' U = true) :
    vx_Back l R p e below s sargs y len W9 (PreOf R mc ms Pc) (PostOf Qc mc ms free) (vx_Post XC mc ms free) := by
  intro m meth c A g ig mk a X hg hsize hdg hW hn hp
  have h1 : (headSpec ws rm).pre.before a A.U = true := atoms_intro fun w hw => hws w hw _ _ X.warmed
  have h2 : (Cond.codeWith y bytes maxL ret hh).before a A.U = true := hws _ hcode _ _ X.warmed
  have h3 : (Cond.initialized y.cls).before a A.U = true := hinit _ _ X.warmed
  have h4 : A.cells + (headSpec ws rm).room.cells ≤ R.cells := by rw [show (headSpec ws rm).room.cells = mc from hrc]; exact hp.1
  have h5 : A.slots + (headSpec ws rm).room.slots ≤ R.slots := by rw [show (headSpec ws rm).room.slots = ms from hrs]; exact hp.2.1
  have hPc : Pc a (A.U.calling g mk a) := hblind _ _ _ _ hp.2.2
  obtain ⟨U, Ls, c0, s0⟩ := A
  dsimp only [Pt.U, Pt.locs, Pt.cells, Pt.slots] at h1 h2 h3 h4 h5 X hn hPc ⊢
  obtain ⟨m9, methY, cY, hn9, hmY, hcY, -, hlY, -⟩ := Cond.codeWith_spec h2
  cases Option.some.inj (hn9.symm.trans hn)
  obtain ⟨kY, hkY, -⟩ := className_of_methodNamed hn
  have hinitY : kY.init = .initialized := Cond.initialized_spec (findClass_of_methodNamed hn) hkY h3
  have h : At U g.method c below := by rw [hg]; exact X.here
  have hlocals9 : W9 + (maxL + 11) + (headSpec ws rm).room.locals ≤ R.locals := hlocals
  have happ : (headSpec ws rm).appliesLoose y e.platform (U.calling g mk a) = true :=
    Spec.appliesLoose_calling (g := g) h hdg hn hkY hinitY
      (X.room_calling (g := g) (R' := (headSpec ws rm).room) hsize hmY hcY hframes (by rw [hlY]; omega) h4 h5) h1
  obtain ⟨mid, hmid⟩ := h.above
  have hfr : (U.setTop g).frames = (.java g :: mid) ++ below := by rw [State.frames_setTop' g h.top, hmid]; rfl
  obtain ⟨o, s₂, hsteps, -, hend, hq⟩ := Steps.callFree hM p X.admits X.cas X.clock (acts := []) hfr happ hPc trivial
  have hq' : vx_Q Qc XC mc ms free a (U.calling g mk a) o s₂ := hq
  rw [State.frames_setTop' g h.top] at hend
  obtain ⟨g₀, hg0⟩ := Option.isSome_iff_exists.mp h.top
  obtain ⟨r, hr⟩ := State.topJava?_eq_some.mp hg0
  have hr' : (({ U with heap := s₂.heap, slotsUsed := s₂.slotsUsed } : State).setVm s₂.vm).frames = .java g₀ :: r := hr
  rcases hq' with ⟨hqc, L, hfe, hL⟩ | ⟨q, rfl, E, ce, L, hx, hce, hcv, hcl, hW₂, hsm, hL⟩
  · obtain ⟨⟨v, rfl⟩, hW₂, e2, q2, q3, q4, q5, q6⟩ := id hfe
    have e3 : s₂ = ({ (U.calling g mk a).setFrames s₂.frames with heap := s₂.heap, slotsUsed := s₂.slotsUsed } : State).setVm s₂.vm := by
      have : s₂ = ({ s₂ with vm := (U.calling g mk a).vm } : State).setVm s₂.vm := rfl
      rw [e2] at this
      exact this
    obtain ⟨c₂, i₂, len₂, hc₂, hd₂, hf₂⟩ := hend
    have hW' : U.WarmedH s₂.vm := hW₂
    have hcc : c₂ = c := by
      have h1 : s₂.code? g.method = U.code? g.method := by
        rw [State.code?_eq, State.code?_eq, hW'.alike.method?]
      exact Option.some.inj (hc₂.symm.trans (h1.trans h.code))
    subst hcc
    have hlen : len₂ = len := by rw [hdg] at hd₂; cases hd₂; rfl
    subst hlen
    have hs₂ : s₂ = (({ U with heap := s₂.heap, slotsUsed := s₂.slotsUsed } : State).setVm s₂.vm).setTop { g with pc := g.pc + len₂, stack := v.toList ++ g.stack } := by
      refine e3.trans ?_
      rw [hf₂, State.calling_eq h.top, State.setFrames_setFrames, State.setTop_of_frames _ hr', hr]
      rfl
    have hsame : U.sameButNew ({ U with heap := s₂.heap, slotsUsed := s₂.slotsUsed } : State) L mc ms := by
      refine ⟨?_, q2, q3, q4, q5, q6⟩
      obtain ⟨t, ht, -⟩ := State.frames_cons hr
      show ({ U with heap := s₂.heap, slotsUsed := s₂.slotsUsed } : State) = { U.setFrames U.frames with heap := s₂.heap, slotsUsed := s₂.slotsUsed }
      rw [State.setFrames_self ht]
    subst hg
    refine Or.inl ⟨v, ⟨(({ U with heap := s₂.heap, slotsUsed := s₂.slotsUsed } : State).setVm s₂.vm), Ls ++ L, c0 + mc, s0 + ms⟩,
      ⟨X.admits, X.cas, X.clock, X.frames, X.room, X.hears, X.method, X.code, (X.here.setHeapUsed s₂.heap s₂.slotsUsed).setVm hW'.alike, X.tail, State.WarmedH.trans X.warmed hW', X.limits, X.bytes, X.same.trans (hsame.setVm s.vm)⟩,
      ⟨g, mk, s₂, L, rfl, rfl, hqc, rfl, hL, rfl, rfl⟩, ?_⟩
    show Steps p.tables e below _ ((({ U with heap := s₂.heap, slotsUsed := s₂.slotsUsed } : State).setVm s₂.vm).setTop { g with pc := g.pc + len₂, stack := v.toList ++ g.stack })
    rw [← hs₂]
    exact hsteps
  · obtain ⟨e2, q2, q3, q4, q5, q6⟩ := id hsm
    have e3 : s₂ = ({ (U.calling g mk a).setFrames s₂.frames with heap := s₂.heap, slotsUsed := s₂.slotsUsed } : State).setVm s₂.vm := by
      have : s₂ = ({ s₂ with vm := (U.calling g mk a).vm } : State).setVm s₂.vm := rfl
      rw [e2] at this
      exact this
    have hf₂ : s₂.frames = .throwing q :: .java g :: U.frames.tail := hend
    have hW' : U.WarmedH s₂.vm := hW₂
    have hs₂ : s₂ = ((({ U with heap := s₂.heap, slotsUsed := s₂.slotsUsed } : State).setVm s₂.vm).setTop g).pushFrame (.throwing q) := by
      refine e3.trans ?_
      rw [hf₂, State.calling_eq h.top, State.setFrames_setFrames, State.pushFrame, State.frames_setTop _ hr', State.setTop_of_frames _ hr', State.setFrames_setFrames, hr]
      rfl
    have hsame : U.sameButNew ({ U with heap := s₂.heap, slotsUsed := s₂.slotsUsed } : State) L mc ms := by
      refine ⟨?_, q2, q3, q4, q5, q6⟩
      obtain ⟨t, ht, -⟩ := State.frames_cons hr
      show ({ U with heap := s₂.heap, slotsUsed := s₂.slotsUsed } : State) = { U.setFrames U.frames with heap := s₂.heap, slotsUsed := s₂.slotsUsed }
      rw [State.setFrames_self ht]
    subst hg
    refine Or.inr ⟨q, ⟨(({ U with heap := s₂.heap, slotsUsed := s₂.slotsUsed } : State).setVm s₂.vm), Ls ++ L, c0 + mc, s0 + ms⟩,
      ⟨X.admits, X.cas, X.clock, X.frames, X.room, X.hears, X.method, X.code, (X.here.setHeapUsed s₂.heap s₂.slotsUsed).setVm hW'.alike, X.tail, State.WarmedH.trans X.warmed hW', X.limits, X.bytes, X.same.trans (hsame.setVm s.vm)⟩,
      ⟨g, mk, s₂, L, E, ce, rfl, rfl, hx, hce, hcv, hcl, rfl, hL, rfl, rfl⟩, ?_⟩
    show Steps p.tables e below _ (((({ U with heap := s₂.heap, slotsUsed := s₂.slotsUsed } : State).setVm s₂.vm).setTop g).pushFrame (.throwing q))
    rw [← hs₂]
    exact hsteps
end
variable {p : Program} {l : Launch} {e : Env} {R : Room} {s : State} {m : MethodId} {args : Array Value} {below : List Frame} {meth : Method} {c : Code} {T : State} {H : Heap} {locs : List Loc} {cells slots : Nat}
theorem vx_callVX (X : Stand p l e R s m args below meth c T locs cells slots) (hexec : p.tables.exec = Jvm.exec) {own C : String} {index : Nat} {y : MethodName} {bytes : ByteArray} {maxL : Nat} {ret : Option FieldType} {hh : List (Nat × Nat × Nat × Nat)}
    (hown : s.vm.findClass own = some m.cls) (hlink : (Cond.methodLink own index y).before args s = true) (hinst : (Cond.instanceMethod y).before args s = true) (hsel : (Cond.selects C y y).before args s = true)
    (hcode : (Cond.codeWith y bytes maxL ret hh).before args s = true) (hy : y.cls ≠ "java/lang/invoke/MethodHandle" ∧ y.cls ≠ "java/lang/invoke/VarHandle")
    {W9 : Nat} {Pre : Pt → Array Value → Prop} {Post : Pt → Array Value → Option Value → Pt → Prop} {PostX : Pt → Array Value → Addr → Pt → Prop} (hK : vx_Back l R p e below s args y 3 W9 Pre Post PostX)
    {b : Addr} {cellB : Cell} (hcell : T.heap[b]? = some cellB) (hobj : cellB.vm.isStatics = false) (hcls : s.vm.findClass C = some cellB.cls)
    {g : JFrame} (hg : g.method = m) (hsize : g.locals.size = c.maxLocals) {argsL rest : List Value} (hlen : ∀ sig, parseMethodDescriptor y.desc = some sig → argsL.length = sig.parameters.length)
    (hstack : g.stack = argsL.reverse ++ .ref b :: rest) (hW : 2 * g.monitorRoom + (rest.map fun v => v.category).sum ≤ W9) (hdg : decode c.code g.pc = .ok (.invokevirtual index, 3))
    (hpre : ∀ vm₁, s.WarmedH vm₁ → Pre ⟨T.setVm vm₁, locs, cells, slots⟩ (Value.ref b :: argsL).toArray) :
    (∃ (v : Option Value) (vm₁ : Vm) (B : Pt), s.WarmedH vm₁ ∧ Stand p l e R s m args below meth c B.U B.locs B.cells B.slots ∧ Post ⟨T.setVm vm₁, locs, cells, slots⟩ (Value.ref b :: argsL).toArray v B ∧
      ∀ target, Steps p.tables e below (B.U.setTop { g with pc := g.pc + 3, stack := v.toList ++ rest }) target → Steps p.tables e below (T.setTop g) target) ∨
    (∃ (q : Addr) (vm₁ : Vm) (B : Pt), s.WarmedH vm₁ ∧ Stand p l e R s m args below meth c B.U B.locs B.cells B.slots ∧ PostX ⟨T.setVm vm₁, locs, cells, slots⟩ (Value.ref b :: argsL).toArray q B ∧
      Steps p.tables e below (T.setTop g) ((B.U.setTop { g with stack := rest }).pushFrame (.throwing q))) := by
  obtain ⟨mk, methM, hnamed, hmethM, hstM, habM⟩ := Cond.instanceMethod_spec hinst
  obtain ⟨m8, methM', cM, hn8, hmethM', -, -, -, -, -, -, hsigM⟩ := Cond.codeWith_spec hcode
  cases Option.some.inj (hn8.symm.trans hnamed)
  cases hmethM.symm.trans hmethM'
  obtain ⟨c2, r2, m2, q1, q2, q3, q4, kP, hkP, hkPi⟩ := Cond.selects_spec hsel
  cases hcls.symm.trans q1
  cases (State.methodFound?_of_named hnamed hy).symm.trans q2
  cases hnamed.symm.trans q3
  have hselP : selectMethod e.platform s.vm cellB.cls mk = .method mk := by rw [Launch.admits_selectMethod X.admits]; exact q4
  obtain ⟨vm₁, X₁, hstep₁⟩ := X.invokevirtual hexec hown hlink hnamed hmethM hstM hkP hkPi hy (a := b) (cell := cellB) hcell
    (fun z h => by rw [h] at hobj; cases hobj) hselP hmethM habM hkP hkPi (g := g) hg (argsL := argsL) (rest := rest) (hlen _ hsigM) hstack hdg
  rcases hK m meth c ⟨T.setVm vm₁, locs, cells, slots⟩ { g with stack := rest } (.invokevirtual index) mk (Value.ref b :: argsL).toArray X₁ hg hsize hdg hW (X₁.named hnamed) (hpre vm₁ X₁.warmed) with ⟨v, B, X', hpost, hsteps⟩ | ⟨q, B, X', hpost, hsteps⟩
  · exact Or.inl ⟨v, vm₁, B, X₁.warmed, X', hpost, fun target h => hstep₁ _ fun acts => by rw [doInvoke_state]; exact hsteps.trans h⟩
  · exact Or.inr ⟨q, vm₁, B, X₁.warmed, X', hpost, hstep₁ _ fun acts => by rw [doInvoke_state]; exact hsteps⟩
theorem vx_callSX (X : Stand p l e R s m args below meth c T locs cells slots) (hexec : p.tables.exec = Jvm.exec) {own : String} {index : Nat} {y : MethodName} {bytes : ByteArray} {maxL : Nat} {ret : Option FieldType} {hh : List (Nat × Nat × Nat × Nat)}
    (hown : s.vm.findClass own = some m.cls) (hlink : (Cond.methodLink own index y).before args s = true) (hstat : (Cond.static y).before args s = true) (hinit : (Cond.initialized y.cls).before args s = true)
    (hcode : (Cond.codeWith y bytes maxL ret hh).before args s = true) (hy : y.cls ≠ "java/lang/invoke/MethodHandle" ∧ y.cls ≠ "java/lang/invoke/VarHandle")
    {W9 : Nat} {Pre : Pt → Array Value → Prop} {Post : Pt → Array Value → Option Value → Pt → Prop} {PostX : Pt → Array Value → Addr → Pt → Prop} (hK : vx_Back l R p e below s args y 3 W9 Pre Post PostX)
    {g : JFrame} (hg : g.method = m) (hsize : g.locals.size = c.maxLocals) {argsL rest : List Value} (hlen : ∀ sig, parseMethodDescriptor y.desc = some sig → argsL.length = sig.parameters.length)
    (hstack : g.stack = argsL.reverse ++ rest) (hW : 2 * g.monitorRoom + (rest.map fun v => v.category).sum ≤ W9) (hdg : decode c.code g.pc = .ok (.invokestatic index, 3))
    (hpre : ∀ vm₁, s.WarmedH vm₁ → Pre ⟨T.setVm vm₁, locs, cells, slots⟩ argsL.toArray) :
    (∃ (v : Option Value) (vm₁ : Vm) (B : Pt), s.WarmedH vm₁ ∧ Stand p l e R s m args below meth c B.U B.locs B.cells B.slots ∧ Post ⟨T.setVm vm₁, locs, cells, slots⟩ argsL.toArray v B ∧
      ∀ target, Steps p.tables e below (B.U.setTop { g with pc := g.pc + 3, stack := v.toList ++ rest }) target → Steps p.tables e below (T.setTop g) target) ∨
    (∃ (q : Addr) (vm₁ : Vm) (B : Pt), s.WarmedH vm₁ ∧ Stand p l e R s m args below meth c B.U B.locs B.cells B.slots ∧ PostX ⟨T.setVm vm₁, locs, cells, slots⟩ argsL.toArray q B ∧
      Steps p.tables e below (T.setTop g) ((B.U.setTop { g with stack := rest }).pushFrame (.throwing q))) := by
  obtain ⟨mk, methM, cM, hnamed, hmethM, -, -, -, -, -, -, hsigM⟩ := Cond.codeWith_spec hcode
  have hstatic : methM.isStatic = true := Cond.static_spec hnamed hmethM hstat
  obtain ⟨kP, hkP, -⟩ := className_of_methodNamed hnamed
  have hinitP : kP.init = .initialized := Cond.initialized_spec (findClass_of_methodNamed hnamed) hkP hinit
  obtain ⟨vm₁, X₁, hstep₁⟩ := X.invokestatic hexec hown hlink hnamed hmethM hstatic hkP hinitP hy (g := g) hg (argsL := argsL) (rest := rest) (hlen _ hsigM) hstack hdg
  rcases hK m meth c ⟨T.setVm vm₁, locs, cells, slots⟩ { g with stack := rest } (.invokestatic index) mk argsL.toArray X₁ hg hsize hdg hW (X₁.named hnamed) (hpre vm₁ X₁.warmed) with ⟨v, B, X', hpost, hsteps⟩ | ⟨q, B, X', hpost, hsteps⟩
  · exact Or.inl ⟨v, vm₁, B, X₁.warmed, X', hpost, fun target h => hstep₁ _ fun acts => by rw [doInvoke_state]; exact hsteps.trans h⟩
  · exact Or.inr ⟨q, vm₁, B, X₁.warmed, X', hpost, hstep₁ _ fun acts => by rw [doInvoke_state]; exact hsteps⟩
theorem vx_callVW (X : Stand p l e R s m args below meth c T locs cells slots) (hexec : p.tables.exec = Jvm.exec) {own C : String} {index : Nat} {y : MethodName} {bytes : ByteArray} {maxL : Nat} {ret : Option FieldType} {hh : List (Nat × Nat × Nat × Nat)}
    (hown : s.vm.findClass own = some m.cls) (hlink : (Cond.methodLink own index y).before args s = true) (hinst : (Cond.instanceMethod y).before args s = true) (hsel : (Cond.selects C y y).before args s = true)
    (hcode : (Cond.codeWith y bytes maxL ret hh).before args s = true) (hy : y.cls ≠ "java/lang/invoke/MethodHandle" ∧ y.cls ≠ "java/lang/invoke/VarHandle")
    {W9 : Nat} {Pre : Pt → Array Value → Prop} {Post : Pt → Array Value → Option Value → Pt → Prop} (hK : Back l R p e below s args y 3 W9 Pre Post)
    {b : Addr} {cellB : Cell} (hcell : T.heap[b]? = some cellB) (hobj : cellB.vm.isStatics = false) (hcls : s.vm.findClass C = some cellB.cls)
    {g : JFrame} (hg : g.method = m) (hsize : g.locals.size = c.maxLocals) {argsL rest : List Value} (hlen : ∀ sig, parseMethodDescriptor y.desc = some sig → argsL.length = sig.parameters.length)
    (hstack : g.stack = argsL.reverse ++ .ref b :: rest) (hW : 2 * g.monitorRoom + (rest.map fun v => v.category).sum ≤ W9) (hdg : decode c.code g.pc = .ok (.invokevirtual index, 3))
    (hpre : ∀ vm₁, s.WarmedH vm₁ → Pre ⟨T.setVm vm₁, locs, cells, slots⟩ (Value.ref b :: argsL).toArray) :
    ∃ (v : Option Value) (vm₁ : Vm) (B : Pt), s.WarmedH vm₁ ∧ Stand p l e R s m args below meth c B.U B.locs B.cells B.slots ∧ Post ⟨T.setVm vm₁, locs, cells, slots⟩ (Value.ref b :: argsL).toArray v B ∧
      ∀ target, Steps p.tables e below (B.U.setTop { g with pc := g.pc + 3, stack := v.toList ++ rest }) target → Steps p.tables e below (T.setTop g) target := by
  obtain ⟨mk, methM, hnamed, hmethM, hstM, habM⟩ := Cond.instanceMethod_spec hinst
  obtain ⟨m8, methM', cM, hn8, hmethM', -, -, -, -, -, -, hsigM⟩ := Cond.codeWith_spec hcode
  cases Option.some.inj (hn8.symm.trans hnamed)
  cases hmethM.symm.trans hmethM'
  obtain ⟨c2, r2, m2, q1, q2, q3, q4, kP, hkP, hkPi⟩ := Cond.selects_spec hsel
  cases hcls.symm.trans q1
  cases (State.methodFound?_of_named hnamed hy).symm.trans q2
  cases hnamed.symm.trans q3
  have hselP : selectMethod e.platform s.vm cellB.cls mk = .method mk := by rw [Launch.admits_selectMethod X.admits]; exact q4
  obtain ⟨vm₁, X₁, hstep₁⟩ := X.invokevirtual hexec hown hlink hnamed hmethM hstM hkP hkPi hy (a := b) (cell := cellB) hcell
    (fun z h => by rw [h] at hobj; cases hobj) hselP hmethM habM hkP hkPi (g := g) hg (argsL := argsL) (rest := rest) (hlen _ hsigM) hstack hdg
  obtain ⟨v, B, X', hpost, hsteps⟩ := hK m meth c ⟨T.setVm vm₁, locs, cells, slots⟩ { g with stack := rest } (.invokevirtual index) mk (Value.ref b :: argsL).toArray X₁ hg hsize hdg hW (X₁.named hnamed) (hpre vm₁ X₁.warmed)
  exact ⟨v, vm₁, B, X₁.warmed, X', hpost, fun target h => hstep₁ _ fun acts => by rw [doInvoke_state]; exact hsteps.trans h⟩
abbrev vx_CVW (R : Room) (s : State) (args : Array Value) (own C : String) (index : Nat) (y : MethodName) (bytes : ByteArray) (maxL : Nat) (ret : Option FieldType) (hh : List (Nat × Nat × Nat × Nat)) (ws : List Cond) (rm : Room) (mc ms n : Nat) : Prop :=
  (rm.cells = mc ∧ rm.slots = ms ∧ rm.frames + 1 ≤ R.frames ∧ 8 + (maxL + 11) + rm.locals ≤ R.locals ∧ (∀ w ∈ ws, ∀ (a' : Array Value) (U : State), s.WarmedH U.vm → w.before a' U = true) ∧ Cond.codeWith y bytes maxL ret hh ∈ ws) ∧
  (Cond.codeWith y bytes maxL ret hh).before args s = true ∧ (Cond.initialized y.cls).before args s = true ∧ (y.cls ≠ "java/lang/invoke/MethodHandle" ∧ y.cls ≠ "java/lang/invoke/VarHandle") ∧
  (∀ sig, parseMethodDescriptor y.desc = some sig → n = sig.parameters.length) ∧ (Cond.methodLink own index y).before args s = true ∧ (Cond.instanceMethod y).before args s = true ∧ (Cond.selects C y y).before args s = true
theorem vx_cwVW {own C : String} {index maxL mc ms : Nat} {y : MethodName} {bytes : ByteArray} {ret : Option FieldType} {hh : List (Nat × Nat × Nat × Nat)} {Ts ws ws' : List Cond} {rm : Room} (n : Nat) (ht : ∀ w ∈ Ts, w.before args s = true) (hT : GoodIn Ts (wsV own index C y ws)) (hw : ws = Cond.codeWith y bytes maxL ret hh :: ws') (hrc : rm.cells = mc) (hrs : rm.slots = ms)
    (hd : y.cls = C ∧ y.cls ≠ "java/lang/invoke/MethodHandle" ∧ y.cls ≠ "java/lang/invoke/VarHandle" ∧ (parseMethodDescriptor y.desc).map (fun d => d.parameters.length) = some n) (hR : rm.frames + 1 ≤ R.frames ∧ 8 + (maxL + 11) + rm.locals ≤ R.locals) :
    vx_CVW R s args own C index y bytes maxL ret hh ws rm mc ms n := by
  obtain ⟨hC, hd⟩ := hd
  subst hC
  have ok : ∀ w ∈ wsV own index y.cls y ws, w.before args s = true := fun w h => ht w (hT w h).1
  have hG : GoodIn Ts ws := fun w h => hT w (by unfold wsV; exact List.mem_append_right _ h)
  have hc : Cond.codeWith y bytes maxL ret hh ∈ ws := by rw [hw]; exact List.mem_cons_self
  refine ⟨⟨hrc, hrs, hR.1, hR.2, pay_in ht hG, hc⟩, ht _ (hG _ hc).1, ok _ (by simp [wsV]), ⟨hd.1, hd.2.1⟩, fun sig h => ?_, ok _ (by simp [wsV]), ok _ (by simp [wsV]), ok _ (by simp [wsV])⟩
  have h2 := hd.2.2
  rw [h] at h2
  exact (Option.some.inj h2).symm
theorem vx_runVW {y : MethodName} {bytes cc : ByteArray} {maxL nL mc ms n index : Nat} {ret : Option FieldType} {hh : List (Nat × Nat × Nat × Nat)} {ws : List Cond} {rm : Room} {Pc : Array Value → State → Prop} {Qc : Array Value → State → Outcome → State → Prop} {free : Addr → Prop} {Ts : List Cond} {own C : String} {b : Addr} {As rest : List Value} {g : JFrame}
    (S : CallFix p m c cc nL s args Ts own) (hM : Met l y ws rm Pc Qc mc ms free) (cw : vx_CVW R s args own C index y bytes maxL ret hh ws rm mc ms n) (hp : PreV s H C b Pc As)
    (hg : g.method = m) (hn : As.length = n) (hsize : g.locals.size = nL) (hstack : g.stack = As.reverse ++ .ref b :: rest) (hW : 2 * g.monitorRoom + (rest.map fun v => v.category).sum ≤ 8) (hdg : decode cc g.pc = .ok (.invokevirtual index, 3)) (hf : cells + mc ≤ R.cells ∧ slots + ms ≤ R.slots) :
    va_Run p l e R s m args below meth c H locs cells slots mc ms g rest (Qc (Value.ref b :: As).toArray) free := by
  obtain ⟨⟨hrc, hrs, hfr, hlo, hws, hcw⟩, hcode, hini, hy, hlen, hl, hin, hse⟩ := cw
  have hK : Back l R p e below s args y 3 8 (PreOf R mc ms Pc) (PostOf Qc mc ms free) := va_backW (hh := hh) (bytes := bytes) (maxL := maxL) (ret := ret) hM hp.1 hrc hrs hfr hlo hws hcw (fun a' U hW => word_at hW (Or.inl (by first | rfl | simp [Cond.onTables, Cond.keeps, Cond.steady])) hini)
  obtain ⟨hx, hb, hml, ho, -⟩ := S
  obtain ⟨-, ⟨cellB, hcB, hoB, hclB⟩, hPc⟩ := hp
  intro T hT X
  obtain ⟨v, vm₁, ⟨U', l2, c2, s2⟩, hW₁, X', ⟨g', mk, t, L, e1, e2, hq, h1, hL, h2, h3⟩, st⟩ := vx_callVW X hx (C := C) (hh := hh) (bytes := bytes) (maxL := maxL) (ret := ret) ho hl hin hse hcode hy hK (by rw [hT]; exact hcB) hoB hclB hg (hsize.trans hml.symm) (argsL := As) (rest := rest) (fun sig h => hn.trans (hlen sig h)) hstack hW (by rw [hb]; exact hdg)
    (fun vm₁ hW₁ => ⟨hf.1, hf.2, hPc (T.setVm vm₁) hT hW₁⟩)
  dsimp only [Pt.U, Pt.locs, Pt.cells, Pt.slots] at X' e1 e2 h1 h2 h3 st
  subst h1; subst h2; subst h3
  exact ⟨v, (T.setVm vm₁).calling g' mk (Value.ref b :: As).toArray, t, U', L, hT, X', hL, e1, e2, hq, st⟩
section
variable {y : MethodName} {bytes cc : ByteArray} {maxL nL mc ms n index : Nat} {ret : Option FieldType} {ws : List Cond} {rm : Room} {Pc : Array Value → State → Prop} {Qc : Array Value → State → Outcome → State → Prop} {XC : String → State → State → Prop} {free : Addr → Prop} {Ts : List Cond} {own C : String} {b : Addr} {As rest : List Value} {g : JFrame}
theorem vx_runVX {hh : List (Nat × Nat × Nat × Nat)} (S : CallFix p m c cc nL s args Ts own) (hM : vx_Met l y ws rm Pc Qc XC mc ms free) (cw : vx_CVW R s args own C index y bytes maxL ret hh ws rm mc ms n) (hp : PreV s H C b Pc As)
    (hg : g.method = m) (hn : As.length = n) (hsize : g.locals.size = nL) (hstack : g.stack = As.reverse ++ .ref b :: rest) (hW : 2 * g.monitorRoom + (rest.map fun v => v.category).sum ≤ 8) (hdg : decode cc g.pc = .ok (.invokevirtual index, 3)) (hf : cells + mc ≤ R.cells ∧ slots + ms ≤ R.slots) :
    vx_Run p l e R s m args below meth c H locs cells slots mc ms g rest (Qc (Value.ref b :: As).toArray) XC free := by
  obtain ⟨⟨hrc, hrs, hfr, hlo, hws, hcw⟩, hcode, hini, hy, hlen, hl, hin, hse⟩ := cw
  have hK : vx_Back l R p e below s args y 3 8 (PreOf R mc ms Pc) (PostOf Qc mc ms free) (vx_Post XC mc ms free) := vx_backW (hh := hh) (bytes := bytes) (maxL := maxL) (ret := ret) hM hp.1 hrc hrs hfr hlo hws hcw (fun a' U hW => word_at hW (Or.inl (by first | rfl | simp [Cond.onTables, Cond.keeps, Cond.steady])) hini)
  obtain ⟨hx, hb, hml, ho, -⟩ := S
  obtain ⟨-, ⟨cellB, hcB, hoB, hclB⟩, hPc⟩ := hp
  intro T hT X
  rcases vx_callVX X hx (C := C) (hh := hh) (bytes := bytes) (maxL := maxL) (ret := ret) ho hl hin hse hcode hy hK (by rw [hT]; exact hcB) hoB hclB hg (hsize.trans hml.symm) (argsL := As) (rest := rest) (fun sig h => hn.trans (hlen sig h)) hstack hW (by rw [hb]; exact hdg)
    (fun vm₁ hW₁ => ⟨hf.1, hf.2, hPc (T.setVm vm₁) hT hW₁⟩) with ⟨v, vm₁, ⟨U', l2, c2, s2⟩, hW₁, X', ⟨g', mk, t, L, e1, e2, hq, h1, hL, h2, h3⟩, st⟩ | ⟨q, vm₁, ⟨U', l2, c2, s2⟩, hW₁, X', ⟨g', mk, t, L, E, ce, e1, e2, hq, hce, hcv, hcl, h1, hL, h2, h3⟩, st⟩
  · dsimp only [Pt.U, Pt.locs, Pt.cells, Pt.slots] at X' e1 e2 h1 h2 h3 st
    subst h1; subst h2; subst h3
    exact Or.inl ⟨v, (T.setVm vm₁).calling g' mk (Value.ref b :: As).toArray, t, U', L, hT, X', hL, e1, e2, hq, st⟩
  · dsimp only [Pt.U, Pt.locs, Pt.cells, Pt.slots] at X' e1 e2 h1 h2 h3 st hcl
    subst h1; subst h2; subst h3
    exact Or.inr ⟨q, (T.setVm vm₁).calling g' mk (Value.ref b :: As).toArray, t, U', L, E, ce, hT, X', hL, e1, e2, hq, hce, hcv, vx_cls hW₁ hcl, st⟩
theorem vx_runSX {hh : List (Nat × Nat × Nat × Nat)} (S : CallFix p m c cc nL s args Ts own) (hM : vx_Met l y ws rm Pc Qc XC mc ms free) (cw : vx_CSW R s args own index y bytes maxL ret hh ws rm mc ms n) (hp : PreS s H Pc As)
    (hg : g.method = m) (hn : As.length = n) (hsize : g.locals.size = nL) (hstack : g.stack = As.reverse ++ rest) (hW : 2 * g.monitorRoom + (rest.map fun v => v.category).sum ≤ 8) (hdg : decode cc g.pc = .ok (.invokestatic index, 3)) (hf : cells + mc ≤ R.cells ∧ slots + ms ≤ R.slots) :
    vx_Run p l e R s m args below meth c H locs cells slots mc ms g rest (Qc As.toArray) XC free := by
  obtain ⟨⟨hrc, hrs, hfr, hlo, hws, hcw⟩, hcode, hini, hy, hlen, hl, hstt⟩ := cw
  have hK : vx_Back l R p e below s args y 3 8 (PreOf R mc ms Pc) (PostOf Qc mc ms free) (vx_Post XC mc ms free) := vx_backW (hh := hh) (bytes := bytes) (maxL := maxL) (ret := ret) hM hp.1 hrc hrs hfr hlo hws hcw (fun a' U hW => word_at hW (Or.inl (by first | rfl | simp [Cond.onTables, Cond.keeps, Cond.steady])) hini)
  obtain ⟨hx, hb, hml, ho, -⟩ := S
  intro T hT X
  rcases vx_callSX X hx (hh := hh) (bytes := bytes) (maxL := maxL) (ret := ret) ho hl hstt hini hcode hy hK hg (hsize.trans hml.symm) (argsL := As) (rest := rest) (fun sig h => hn.trans (hlen sig h)) hstack hW (by rw [hb]; exact hdg)
    (fun vm₁ hW₁ => ⟨hf.1, hf.2, hp.2 (T.setVm vm₁) hT hW₁⟩) with ⟨v, vm₁, ⟨U', l2, c2, s2⟩, hW₁, X', ⟨g', mk, t, L, e1, e2, hq, h1, hL, h2, h3⟩, st⟩ | ⟨q, vm₁, ⟨U', l2, c2, s2⟩, hW₁, X', ⟨g', mk, t, L, E, ce, e1, e2, hq, hce, hcv, hcl, h1, hL, h2, h3⟩, st⟩
  · dsimp only [Pt.U, Pt.locs, Pt.cells, Pt.slots] at X' e1 e2 h1 h2 h3 st
    subst h1; subst h2; subst h3
    exact Or.inl ⟨v, (T.setVm vm₁).calling g' mk As.toArray, t, U', L, hT, X', hL, e1, e2, hq, st⟩
  · dsimp only [Pt.U, Pt.locs, Pt.cells, Pt.slots] at X' e1 e2 h1 h2 h3 st hcl
    subst h1; subst h2; subst h3
    exact Or.inr ⟨q, (T.setVm vm₁).calling g' mk As.toArray, t, U', L, E, ce, hT, X', hL, e1, e2, hq, hce, hcv, vx_cls hW₁ hcl, st⟩
end
end VXH
theorem vx_ofWH {l : Launch} {y : MethodName} {ws ws' : List Cond} {rm : Room} {Pc : Array Value → State → Prop} {Qc : Array Value → State → Outcome → State → Prop} {XC : String → State → State → Prop} {mc ms : Nat} {free : Addr → Prop} {cc : ByteArray} {maxL : Nat} {ret : Option FieldType} {hh : List (Nat × Nat × Nat × Nat)}
    (hy : plainName y.cls = true) (hw : ws = Cond.codeWith y cc maxL ret hh :: ws')
    (body : ∀ p e s m args below meth c s₁, BodyLoose p l y (headSpec ws rm) cc maxL ret e s m args below meth c s₁ → c.maxLocals = maxL → Pc args s →
      W p l e (headSpec ws rm).room s m args below meth c s.heap [] 0 0 (vx_MQ below Qc XC args s mc ms free) (entryFrame m args maxL)) : vx_Met l y ws rm Pc Qc XC mc ms free := by
  refine MetFree.of_bodyS (code := cc) (maxLocals := maxL) (ret := ret) hy ?_ ?_
  · intro args s m h hn
    obtain ⟨m9, meth, c, hn9, h1, h2, h3, h4, -, h5, h6, -⟩ := Cond.codeWith_spec (atoms_spec (ws := ws) h _ (by rw [hw]; exact List.mem_cons_self))
    cases hn.symm.trans hn9
    exact ⟨meth, c, h1, h2, h3, h4, h5, h6⟩
  · intro p e s m args below meth c s₁ B hml hP _
    have hh0 : s₁.heap = s.heap := by rw [B.state]; rfl
    obtain ⟨t, a1, o, b1, b2, b3⟩ := body p e s m args below meth c s₁ B hml hP s₁ hh0 (Stand.of_body B)
    exact ⟨t, o, a1, b1, b2, b3⟩
/-! ===== END ===== -/

/-! ===== BEGIN printed: names, fields, word lists, decode rows ===== -/
def RX0 : String := "QuadSnail$Garden"
def TX0 : u_T := fun k => match k with
  | 0 => ("QuadSnail$Garden", "first", "LQuadSnail$Snail;", true)
  | 1 => ("QuadSnail$Garden", "second", "LQuadSnail$Snail;", true)
  | 2 => ("QuadSnail$Garden", "third", "LQuadSnail$Snail;", true)
  | 3 => ("QuadSnail$Garden", "fourth", "LQuadSnail$Snail;", true)
  | 4 => ("QuadSnail$Garden", "rule", "I", false)
  | _ => ("QuadSnail$Garden", "counts", "I", false)
def tyX0 : Nat → FieldType := fun k => match k with
  | 0 => .object "QuadSnail$Snail"
  | 1 => .object "QuadSnail$Snail"
  | 2 => .object "QuadSnail$Snail"
  | 3 => .object "QuadSnail$Snail"
  | 4 => .int
  | _ => .int
abbrev wsX00 : List Cond := u_ws RX0 TX0 6
theorem nmX0 : ∀ a, a < 6 → ∀ b, b < 6 → a ≠ b → (TX0 a).2.1 ≠ (TX0 b).2.1 := by decide +kernel
theorem tyX0_ok : ∀ k, k < 6 → parseFieldDescriptor (TX0 k).2.2.1 = some (tyX0 k) := by decide +kernel
abbrev cX0_init : ByteArray := prog_2_method_1_code
def yX0_init : MethodName := ⟨RX0, "<init>", "()V"⟩
abbrev cX0_snail : ByteArray := prog_2_method_2_code
def yX0_snail : MethodName := ⟨RX0, "snail", "(I)LQuadSnail$Snail;"⟩
abbrev cX0_sumOfPositions : ByteArray := prog_2_method_3_code
def yX0_sumOfPositions : MethodName := ⟨RX0, "sumOfPositions", "()I"⟩
abbrev cX0_copyFrom : ByteArray := prog_2_method_4_code
def yX0_copyFrom : MethodName := ⟨RX0, "copyFrom", "(LQuadSnail$Garden;)V"⟩
def RX1 : String := "QuadSnail$Log"
def TX1 : u_T := fun k => match k with
  | 0 => ("QuadSnail$Log", "cells", "[I", true)
  | 1 => ("QuadSnail$Log", "oldest", "I", false)
  | _ => ("QuadSnail$Log", "length", "I", false)
def tyX1 : Nat → FieldType := fun k => match k with
  | 0 => .array .int
  | 1 => .int
  | _ => .int
abbrev wsX10 : List Cond := u_ws RX1 TX1 3
theorem nmX1 : ∀ a, a < 3 → ∀ b, b < 3 → a ≠ b → (TX1 a).2.1 ≠ (TX1 b).2.1 := by decide +kernel
theorem tyX1_ok : ∀ k, k < 3 → parseFieldDescriptor (TX1 k).2.2.1 = some (tyX1 k) := by decide +kernel
abbrev cX1_init : ByteArray := prog_3_method_1_code
def yX1_init : MethodName := ⟨RX1, "<init>", "()V"⟩
abbrev cX1_add : ByteArray := prog_3_method_2_code
def yX1_add : MethodName := ⟨RX1, "add", "(III)V"⟩
abbrev cX1_dropLatest : ByteArray := prog_3_method_3_code
def yX1_dropLatest : MethodName := ⟨RX1, "dropLatest", "()V"⟩
abbrev cX1_step : ByteArray := prog_3_method_4_code
def yX1_step : MethodName := ⟨RX1, "step", "(I)I"⟩
abbrev cX1_spent : ByteArray := prog_3_method_5_code
def yX1_spent : MethodName := ⟨RX1, "spent", "(I)I"⟩
abbrev cX1_before : ByteArray := prog_3_method_6_code
def yX1_before : MethodName := ⟨RX1, "before", "(I)I"⟩
abbrev cX1_speed : ByteArray := prog_3_method_7_code
def yX1_speed : MethodName := ⟨RX1, "speed", "()D"⟩
abbrev cX1_copyFrom : ByteArray := prog_3_method_8_code
def yX1_copyFrom : MethodName := ⟨RX1, "copyFrom", "(LQuadSnail$Log;)V"⟩
abbrev cX1_read : ByteArray := prog_3_method_9_code
def yX1_read : MethodName := ⟨RX1, "read", "(II)I"⟩
abbrev cX1_write : ByteArray := prog_3_method_10_code
def yX1_write : MethodName := ⟨RX1, "write", "(II)V"⟩
abbrev cX1_rowOf : ByteArray := prog_3_method_11_code
def yX1_rowOf : MethodName := ⟨RX1, "rowOf", "(I)I"⟩
def RX2 : String := "QuadSnail$OrderText"
def TX2 : u_T := fun k => match k with
  | 0 => ("QuadSnail$OrderText", "signs", "[C", true)
  | _ => ("QuadSnail$OrderText", "length", "I", false)
def tyX2 : Nat → FieldType := fun k => match k with
  | 0 => .array .char
  | _ => .int
abbrev wsX20 : List Cond := u_ws RX2 TX2 2
theorem nmX2 : ∀ a, a < 2 → ∀ b, b < 2 → a ≠ b → (TX2 a).2.1 ≠ (TX2 b).2.1 := by decide +kernel
theorem tyX2_ok : ∀ k, k < 2 → parseFieldDescriptor (TX2 k).2.2.1 = some (tyX2 k) := by decide +kernel
abbrev cX2_init : ByteArray := prog_4_method_1_code
def yX2_init : MethodName := ⟨RX2, "<init>", "()V"⟩
abbrev cX2_append : ByteArray := prog_4_method_2_code
def yX2_append : MethodName := ⟨RX2, "append", "(C)V"⟩
abbrev cX2_sign : ByteArray := prog_4_method_3_code
def yX2_sign : MethodName := ⟨RX2, "sign", "(I)C"⟩
abbrev cX2_digit : ByteArray := prog_4_method_4_code
def yX2_digit : MethodName := ⟨RX2, "digit", "(I)I"⟩
abbrev cX2_number : ByteArray := prog_4_method_5_code
def yX2_number : MethodName := ⟨RX2, "number", "(I)I"⟩
abbrev cX2_orders : ByteArray := prog_4_method_6_code
def yX2_orders : MethodName := ⟨RX2, "orders", "()I"⟩
abbrev cX2_endOfOrder : ByteArray := prog_4_method_7_code
def yX2_endOfOrder : MethodName := ⟨RX2, "endOfOrder", "(I)I"⟩
abbrev cX2_firstError : ByteArray := prog_4_method_8_code
def yX2_firstError : MethodName := ⟨RX2, "firstError", "()I"⟩
abbrev cX2_mayEnd : ByteArray := prog_4_method_9_code
def yX2_mayEnd : MethodName := ⟨RX2, "mayEnd", "(I)Z"⟩
abbrev cX2_placeAfter : ByteArray := prog_4_method_10_code
def yX2_placeAfter : MethodName := ⟨RX2, "placeAfter", "(IC)I"⟩
abbrev cX2_placeAfterSnail : ByteArray := prog_4_method_11_code
def yX2_placeAfterSnail : MethodName := ⟨RX2, "placeAfterSnail", "(C)I"⟩
abbrev cX2_isBetween : ByteArray := prog_4_method_12_code
def yX2_isBetween : MethodName := ⟨RX2, "isBetween", "(CCC)Z"⟩
def RX3 : String := "QuadSnail$Records"
def TX3 : u_T := fun k => match k with
  | 0 => ("QuadSnail$Records", "first", "LQuadSnail$Garden;", true)
  | 1 => ("QuadSnail$Records", "second", "LQuadSnail$Garden;", true)
  | 2 => ("QuadSnail$Records", "third", "LQuadSnail$Garden;", true)
  | 3 => ("QuadSnail$Records", "fourth", "LQuadSnail$Garden;", true)
  | 4 => ("QuadSnail$Records", "oldest", "I", false)
  | _ => ("QuadSnail$Records", "length", "I", false)
def tyX3 : Nat → FieldType := fun k => match k with
  | 0 => .object "QuadSnail$Garden"
  | 1 => .object "QuadSnail$Garden"
  | 2 => .object "QuadSnail$Garden"
  | 3 => .object "QuadSnail$Garden"
  | 4 => .int
  | _ => .int
abbrev wsX30 : List Cond := u_ws RX3 TX3 6
theorem nmX3 : ∀ a, a < 6 → ∀ b, b < 6 → a ≠ b → (TX3 a).2.1 ≠ (TX3 b).2.1 := by decide +kernel
theorem tyX3_ok : ∀ k, k < 6 → parseFieldDescriptor (TX3 k).2.2.1 = some (tyX3 k) := by decide +kernel
abbrev cX3_init : ByteArray := prog_5_method_1_code
def yX3_init : MethodName := ⟨RX3, "<init>", "()V"⟩
abbrev cX3_keep : ByteArray := prog_5_method_2_code
def yX3_keep : MethodName := ⟨RX3, "keep", "(LQuadSnail$Garden;)V"⟩
abbrev cX3_giveBackLatest : ByteArray := prog_5_method_3_code
def yX3_giveBackLatest : MethodName := ⟨RX3, "giveBackLatest", "(LQuadSnail$Garden;)V"⟩
abbrev cX3_latest : ByteArray := prog_5_method_4_code
def yX3_latest : MethodName := ⟨RX3, "latest", "()LQuadSnail$Garden;"⟩
def RX4 : String := "QuadSnail$Snail"
def TX4 : u_T := fun k => match k with
  | 0 => ("QuadSnail$Snail", "log", "LQuadSnail$Log;", true)
  | 1 => ("QuadSnail$Snail", "state", "I", false)
  | 2 => ("QuadSnail$Snail", "position", "I", false)
  | 3 => ("QuadSnail$Snail", "direction", "I", false)
  | 4 => ("QuadSnail$Snail", "countA", "I", false)
  | 5 => ("QuadSnail$Snail", "countB", "I", false)
  | 6 => ("QuadSnail$Snail", "errorSteps", "I", false)
  | 7 => ("QuadSnail$Snail", "offAtMarks", "I", false)
  | 8 => ("QuadSnail$Snail", "errors", "I", false)
  | 9 => ("QuadSnail$Snail", "slips", "I", false)
  | 10 => ("QuadSnail$Snail", "distance", "I", false)
  | _ => ("QuadSnail$Snail", "ticks", "I", false)
def tyX4 : Nat → FieldType := fun k => match k with
  | 0 => .object "QuadSnail$Log"
  | 1 => .int
  | 2 => .int
  | 3 => .int
  | 4 => .int
  | 5 => .int
  | 6 => .int
  | 7 => .int
  | 8 => .int
  | 9 => .int
  | 10 => .int
  | _ => .int
abbrev wsX40 : List Cond := u_ws RX4 TX4 12
theorem nmX4 : ∀ a, a < 12 → ∀ b, b < 12 → a ≠ b → (TX4 a).2.1 ≠ (TX4 b).2.1 := by decide +kernel
theorem tyX4_ok : ∀ k, k < 12 → parseFieldDescriptor (TX4 k).2.2.1 = some (tyX4 k) := by decide +kernel
abbrev cX4_init : ByteArray := prog_6_method_1_code
def yX4_init : MethodName := ⟨RX4, "<init>", "()V"⟩
abbrev cX4_ring : ByteArray := prog_6_method_2_code
def yX4_ring : MethodName := ⟨RX4, "ring", "(I)I"⟩
abbrev cX4_neighbour : ByteArray := prog_6_method_3_code
def yX4_neighbour : MethodName := ⟨RX4, "neighbour", "(I)I"⟩
abbrev cX4_stepUnder : ByteArray := prog_6_method_4_code
def yX4_stepUnder : MethodName := ⟨RX4, "stepUnder", "(II)I"⟩
abbrev cX4_hasRoom : ByteArray := prog_6_method_5_code
def yX4_hasRoom : MethodName := ⟨RX4, "hasRoom", "(II)Z"⟩
abbrev cX4_sense : ByteArray := prog_6_method_6_code
def yX4_sense : MethodName := ⟨RX4, "sense", "(III)V"⟩
abbrev cX4_canRetrace : ByteArray := prog_6_method_7_code
def yX4_canRetrace : MethodName := ⟨RX4, "canRetrace", "(I)Z"⟩
abbrev cX4_retrace : ByteArray := prog_6_method_8_code
def yX4_retrace : MethodName := ⟨RX4, "retrace", "(I)V"⟩
abbrev cX4_move : ByteArray := prog_6_method_9_code
def yX4_move : MethodName := ⟨RX4, "move", "(III)V"⟩
abbrev cX4_book : ByteArray := prog_6_method_10_code
def yX4_book : MethodName := ⟨RX4, "book", "(II)V"⟩
abbrev cX4_turnsOver : ByteArray := prog_6_method_11_code
def yX4_turnsOver : MethodName := ⟨RX4, "turnsOver", "(I)I"⟩
abbrev cX4_placeIn : ByteArray := prog_6_method_12_code
def yX4_placeIn : MethodName := ⟨RX4, "placeIn", "(I)I"⟩
abbrev cX4_passMark : ByteArray := prog_6_method_13_code
def yX4_passMark : MethodName := ⟨RX4, "passMark", "(I)I"⟩
abbrev cX4_copyFrom : ByteArray := prog_6_method_14_code
def yX4_copyFrom : MethodName := ⟨RX4, "copyFrom", "(LQuadSnail$Snail;)V"⟩
def RX5 : String := "QuadSnail"
def TX5 : u_T := fun k => match k with
  | 0 => ("QuadSnail", "now", "LQuadSnail$Garden;", true)
  | 1 => ("QuadSnail", "trial", "LQuadSnail$Garden;", true)
  | 2 => ("QuadSnail", "snapshot", "LQuadSnail$Garden;", true)
  | 3 => ("QuadSnail", "records", "LQuadSnail$Records;", true)
  | 4 => ("QuadSnail", "text", "LQuadSnail$OrderText;", true)
  | _ => ("QuadSnail", "hasSnapshot", "Z", false)
def tyX5 : Nat → FieldType := fun k => match k with
  | 0 => .object "QuadSnail$Garden"
  | 1 => .object "QuadSnail$Garden"
  | 2 => .object "QuadSnail$Garden"
  | 3 => .object "QuadSnail$Records"
  | 4 => .object "QuadSnail$OrderText"
  | _ => .boolean
abbrev wsX50 : List Cond := u_ws RX5 TX5 6
theorem nmX5 : ∀ a, a < 6 → ∀ b, b < 6 → a ≠ b → (TX5 a).2.1 ≠ (TX5 b).2.1 := by decide +kernel
theorem tyX5_ok : ∀ k, k < 6 → parseFieldDescriptor (TX5 k).2.2.1 = some (tyX5 k) := by decide +kernel
abbrev cX5_init : ByteArray := prog_1_method_1_code
def yX5_init : MethodName := ⟨RX5, "<init>", "()V"⟩
abbrev cX5_feel : ByteArray := prog_1_method_2_code
def yX5_feel : MethodName := ⟨RX5, "feel", "(III)I"⟩
abbrev cX5_crawl : ByteArray := prog_1_method_3_code
def yX5_crawl : MethodName := ⟨RX5, "crawl", "(II)I"⟩
abbrev cX5_meetMark : ByteArray := prog_1_method_4_code
def yX5_meetMark : MethodName := ⟨RX5, "meetMark", "(I)I"⟩
abbrev cX5_goBack : ByteArray := prog_1_method_5_code
def yX5_goBack : MethodName := ⟨RX5, "goBack", "(II)I"⟩
abbrev cX5_setRule : ByteArray := prog_1_method_6_code
def yX5_setRule : MethodName := ⟨RX5, "setRule", "(I)I"⟩
abbrev cX5_setCounts : ByteArray := prog_1_method_7_code
def yX5_setCounts : MethodName := ⟨RX5, "setCounts", "(I)I"⟩
abbrev cX5_type : ByteArray := prog_1_method_8_code
def yX5_type : MethodName := ⟨RX5, "type", "(C)I"⟩
abbrev cX5_clearText : ByteArray := prog_1_method_9_code
def yX5_clearText : MethodName := ⟨RX5, "clearText", "()I"⟩
abbrev cX5_textError : ByteArray := prog_1_method_10_code
def yX5_textError : MethodName := ⟨RX5, "textError", "()I"⟩
abbrev cX5_impossibleOrder : ByteArray := prog_1_method_11_code
def yX5_impossibleOrder : MethodName := ⟨RX5, "impossibleOrder", "()I"⟩
abbrev cX5_carryOut : ByteArray := prog_1_method_12_code
def yX5_carryOut : MethodName := ⟨RX5, "carryOut", "()I"⟩
abbrev cX5_undo : ByteArray := prog_1_method_13_code
def yX5_undo : MethodName := ⟨RX5, "undo", "()I"⟩
abbrev cX5_takeSnapshot : ByteArray := prog_1_method_14_code
def yX5_takeSnapshot : MethodName := ⟨RX5, "takeSnapshot", "()I"⟩
abbrev cX5_restoreSnapshot : ByteArray := prog_1_method_15_code
def yX5_restoreSnapshot : MethodName := ⟨RX5, "restoreSnapshot", "()I"⟩
abbrev cX5_stateOf : ByteArray := prog_1_method_16_code
def yX5_stateOf : MethodName := ⟨RX5, "stateOf", "(I)I"⟩
abbrev cX5_positionOf : ByteArray := prog_1_method_17_code
def yX5_positionOf : MethodName := ⟨RX5, "positionOf", "(I)I"⟩
abbrev cX5_positionByTracks : ByteArray := prog_1_method_18_code
def yX5_positionByTracks : MethodName := ⟨RX5, "positionByTracks", "(I)I"⟩
abbrev cX5_turnsOf : ByteArray := prog_1_method_19_code
def yX5_turnsOf : MethodName := ⟨RX5, "turnsOf", "(I)I"⟩
abbrev cX5_placeOf : ByteArray := prog_1_method_20_code
def yX5_placeOf : MethodName := ⟨RX5, "placeOf", "(I)I"⟩
abbrev cX5_directionOf : ByteArray := prog_1_method_21_code
def yX5_directionOf : MethodName := ⟨RX5, "directionOf", "(I)I"⟩
abbrev cX5_countOfA : ByteArray := prog_1_method_22_code
def yX5_countOfA : MethodName := ⟨RX5, "countOfA", "(I)I"⟩
abbrev cX5_leader : ByteArray := prog_1_method_23_code
def yX5_leader : MethodName := ⟨RX5, "leader", "()I"⟩
abbrev cX5_stepTo : ByteArray := prog_1_method_24_code
def yX5_stepTo : MethodName := ⟨RX5, "stepTo", "(II)I"⟩
abbrev cX5_logLength : ByteArray := prog_1_method_25_code
def yX5_logLength : MethodName := ⟨RX5, "logLength", "(I)I"⟩
abbrev cX5_loggedStep : ByteArray := prog_1_method_26_code
def yX5_loggedStep : MethodName := ⟨RX5, "loggedStep", "(II)I"⟩
abbrev cX5_speedOf : ByteArray := prog_1_method_27_code
def yX5_speedOf : MethodName := ⟨RX5, "speedOf", "(I)D"⟩
abbrev cX5_errorsOf : ByteArray := prog_1_method_28_code
def yX5_errorsOf : MethodName := ⟨RX5, "errorsOf", "(I)I"⟩
abbrev cX5_slipsOf : ByteArray := prog_1_method_29_code
def yX5_slipsOf : MethodName := ⟨RX5, "slipsOf", "(I)I"⟩
abbrev cX5_distanceOf : ByteArray := prog_1_method_30_code
def yX5_distanceOf : MethodName := ⟨RX5, "distanceOf", "(I)I"⟩
abbrev cX5_ticksOf : ByteArray := prog_1_method_31_code
def yX5_ticksOf : MethodName := ⟨RX5, "ticksOf", "(I)I"⟩
abbrev cX5_counts : ByteArray := prog_1_method_32_code
def yX5_counts : MethodName := ⟨RX5, "counts", "()I"⟩
abbrev cX5_rule : ByteArray := prog_1_method_33_code
def yX5_rule : MethodName := ⟨RX5, "rule", "()I"⟩
abbrev cX5_recordedStates : ByteArray := prog_1_method_34_code
def yX5_recordedStates : MethodName := ⟨RX5, "recordedStates", "()I"⟩
abbrev cX5_snailNumbered : ByteArray := prog_1_method_35_code
def yX5_snailNumbered : MethodName := ⟨RX5, "snailNumbered", "(I)LQuadSnail$Snail;"⟩
abbrev cX5_demandState : ByteArray := prog_1_method_36_code
def yX5_demandState : MethodName := ⟨RX5, "demandState", "(I)V"⟩
abbrev cX5_demandRoom : ByteArray := prog_1_method_37_code
def yX5_demandRoom : MethodName := ⟨RX5, "demandRoom", "(LQuadSnail$Snail;II)V"⟩
abbrev cX5_demandValidText : ByteArray := prog_1_method_38_code
def yX5_demandValidText : MethodName := ⟨RX5, "demandValidText", "()V"⟩
abbrev cX5_firstFailing : ByteArray := prog_1_method_39_code
def yX5_firstFailing : MethodName := ⟨RX5, "firstFailing", "(LQuadSnail$Garden;)I"⟩
abbrev cX5_follow : ByteArray := prog_1_method_40_code
def yX5_follow : MethodName := ⟨RX5, "follow", "(LQuadSnail$Garden;I)Z"⟩
abbrev cX5_goBackIfPossible : ByteArray := prog_1_method_41_code
def yX5_goBackIfPossible : MethodName := ⟨RX5, "goBackIfPossible", "(LQuadSnail$Snail;I)Z"⟩
abbrev cX5_feelAll : ByteArray := prog_1_method_42_code
def yX5_feelAll : MethodName := ⟨RX5, "feelAll", "(LQuadSnail$Snail;III)Z"⟩
def RX6 : String := "QuadSnailModel"
def TX6 : u_T := fun k => match k with
  | 0 => ("QuadSnailModel", "s", "[I", true)
  | 1 => ("QuadSnailModel", "before", "[I", true)
  | 2 => ("QuadSnailModel", "known", "I", false)
  | 3 => ("QuadSnailModel", "kept", "[I", true)
  | 4 => ("QuadSnailModel", "isKept", "Z", false)
  | 5 => ("QuadSnailModel", "aside", "[I", true)
  | 6 => ("QuadSnailModel", "text", "[I", true)
  | 7 => ("QuadSnailModel", "length", "I", false)
  | 8 => ("QuadSnailModel", "thrown", "I", false)
  | 9 => ("QuadSnailModel", "at", "I", false)
  | 10 => ("QuadSnailModel", "isBroken", "Z", false)
  | _ => ("QuadSnailModel", "orders", "I", false)
def tyX6 : Nat → FieldType := fun k => match k with
  | 0 => .array .int
  | 1 => .array .int
  | 2 => .int
  | 3 => .array .int
  | 4 => .boolean
  | 5 => .array .int
  | 6 => .array .int
  | 7 => .int
  | 8 => .int
  | 9 => .int
  | 10 => .boolean
  | _ => .int
abbrev wsX60 : List Cond := u_ws RX6 TX6 12
theorem nmX6 : ∀ a, a < 12 → ∀ b, b < 12 → a ≠ b → (TX6 a).2.1 ≠ (TX6 b).2.1 := by decide +kernel
theorem tyX6_ok : ∀ k, k < 12 → parseFieldDescriptor (TX6 k).2.2.1 = some (tyX6 k) := by decide +kernel
abbrev cX6_init : ByteArray := prog_8_method_1_code
def yX6_init : MethodName := ⟨RX6, "<init>", "()V"⟩
abbrev cX6_thrown : ByteArray := prog_8_method_2_code
def yX6_thrown : MethodName := ⟨RX6, "thrown", "()I"⟩
abbrev cX6_throwing : ByteArray := prog_8_method_3_code
def yX6_throwing : MethodName := ⟨RX6, "throwing", "(I)I"⟩
abbrev cX6_in : ByteArray := prog_8_method_4_code
def yX6_in : MethodName := ⟨RX6, "in", "(III)Z"⟩
abbrev cX6_isThere : ByteArray := prog_8_method_5_code
def yX6_isThere : MethodName := ⟨RX6, "isThere", "(I)Z"⟩
abbrev cX6_size : ByteArray := prog_8_method_6_code
def yX6_size : MethodName := ⟨RX6, "size", "(I)I"⟩
abbrev cX6_record : ByteArray := prog_8_method_7_code
def yX6_record : MethodName := ⟨RX6, "record", "()V"⟩
abbrev cX6_of : ByteArray := prog_8_method_8_code
def yX6_of : MethodName := ⟨RX6, "of", "(II)I"⟩
abbrev cX6_lay : ByteArray := prog_8_method_9_code
def yX6_lay : MethodName := ⟨RX6, "lay", "(III)V"⟩
abbrev cX6_grow : ByteArray := prog_8_method_10_code
def yX6_grow : MethodName := ⟨RX6, "grow", "(III)V"⟩
abbrev cX6_order : ByteArray := prog_8_method_11_code
def yX6_order : MethodName := ⟨RX6, "order", "(I)I"⟩
abbrev cX6_state : ByteArray := prog_8_method_12_code
def yX6_state : MethodName := ⟨RX6, "state", "(I)I"⟩
abbrev cX6_onward : ByteArray := prog_8_method_13_code
def yX6_onward : MethodName := ⟨RX6, "onward", "(II)I"⟩
abbrev cX6_stepOf : ByteArray := prog_8_method_14_code
def yX6_stepOf : MethodName := ⟨RX6, "stepOf", "(II)I"⟩
abbrev cX6_isA : ByteArray := prog_8_method_15_code
def yX6_isA : MethodName := ⟨RX6, "isA", "(II)Z"⟩
abbrev cX6_canFeel : ByteArray := prog_8_method_16_code
def yX6_canFeel : MethodName := ⟨RX6, "canFeel", "(III)Z"⟩
abbrev cX6_turns : ByteArray := prog_8_method_17_code
def yX6_turns : MethodName := ⟨RX6, "turns", "(II)V"⟩
abbrev cX6_feels : ByteArray := prog_8_method_18_code
def yX6_feels : MethodName := ⟨RX6, "feels", "(III)I"⟩
abbrev cX6_ahead : ByteArray := prog_8_method_19_code
def yX6_ahead : MethodName := ⟨RX6, "ahead", "(II)I"⟩
abbrev cX6_meets : ByteArray := prog_8_method_20_code
def yX6_meets : MethodName := ⟨RX6, "meets", "(I)I"⟩
abbrev cX6_placed : ByteArray := prog_8_method_21_code
def yX6_placed : MethodName := ⟨RX6, "placed", "(I)I"⟩
abbrev cX6_canGoBack : ByteArray := prog_8_method_22_code
def yX6_canGoBack : MethodName := ⟨RX6, "canGoBack", "(II)Z"⟩
abbrev cX6_goesBack : ByteArray := prog_8_method_23_code
def yX6_goesBack : MethodName := ⟨RX6, "goesBack", "(II)I"⟩
abbrev cX6_feel : ByteArray := prog_8_method_24_code
def yX6_feel : MethodName := ⟨RX6, "feel", "(III)I"⟩
abbrev cX6_crawl : ByteArray := prog_8_method_25_code
def yX6_crawl : MethodName := ⟨RX6, "crawl", "(II)I"⟩
abbrev cX6_meetMark : ByteArray := prog_8_method_26_code
def yX6_meetMark : MethodName := ⟨RX6, "meetMark", "(I)I"⟩
abbrev cX6_goBack : ByteArray := prog_8_method_27_code
def yX6_goBack : MethodName := ⟨RX6, "goBack", "(II)I"⟩
abbrev cX6_setRule : ByteArray := prog_8_method_28_code
def yX6_setRule : MethodName := ⟨RX6, "setRule", "(I)I"⟩
abbrev cX6_setCounts : ByteArray := prog_8_method_29_code
def yX6_setCounts : MethodName := ⟨RX6, "setCounts", "(I)I"⟩
abbrev cX6_type : ByteArray := prog_8_method_30_code
def yX6_type : MethodName := ⟨RX6, "type", "(C)I"⟩
abbrev cX6_clearText : ByteArray := prog_8_method_31_code
def yX6_clearText : MethodName := ⟨RX6, "clearText", "()I"⟩
abbrev cX6_sign : ByteArray := prog_8_method_32_code
def yX6_sign : MethodName := ⟨RX6, "sign", "(II)I"⟩
abbrev cX6_isNext : ByteArray := prog_8_method_33_code
def yX6_isNext : MethodName := ⟨RX6, "isNext", "(II)Z"⟩
abbrev cX6_isFelt : ByteArray := prog_8_method_34_code
def yX6_isFelt : MethodName := ⟨RX6, "isFelt", "(IZ)Z"⟩
abbrev cX6_isOrdered : ByteArray := prog_8_method_35_code
def yX6_isOrdered : MethodName := ⟨RX6, "isOrdered", "(Z)Z"⟩
abbrev cX6_go : ByteArray := prog_8_method_36_code
def yX6_go : MethodName := ⟨RX6, "go", "(Z)Z"⟩
abbrev cX6_textError : ByteArray := prog_8_method_37_code
def yX6_textError : MethodName := ⟨RX6, "textError", "()I"⟩
abbrev cX6_isPossible : ByteArray := prog_8_method_38_code
def yX6_isPossible : MethodName := ⟨RX6, "isPossible", "()Z"⟩
abbrev cX6_impossibleOrder : ByteArray := prog_8_method_39_code
def yX6_impossibleOrder : MethodName := ⟨RX6, "impossibleOrder", "()I"⟩
abbrev cX6_carryOut : ByteArray := prog_8_method_40_code
def yX6_carryOut : MethodName := ⟨RX6, "carryOut", "()I"⟩
abbrev cX6_undo : ByteArray := prog_8_method_41_code
def yX6_undo : MethodName := ⟨RX6, "undo", "()I"⟩
abbrev cX6_sum : ByteArray := prog_8_method_42_code
def yX6_sum : MethodName := ⟨RX6, "sum", "()I"⟩
abbrev cX6_takeSnapshot : ByteArray := prog_8_method_43_code
def yX6_takeSnapshot : MethodName := ⟨RX6, "takeSnapshot", "()I"⟩
abbrev cX6_restoreSnapshot : ByteArray := prog_8_method_44_code
def yX6_restoreSnapshot : MethodName := ⟨RX6, "restoreSnapshot", "()I"⟩
abbrev cX6_told : ByteArray := prog_8_method_45_code
def yX6_told : MethodName := ⟨RX6, "told", "(II)I"⟩
abbrev cX6_stateOf : ByteArray := prog_8_method_46_code
def yX6_stateOf : MethodName := ⟨RX6, "stateOf", "(I)I"⟩
abbrev cX6_positionOf : ByteArray := prog_8_method_47_code
def yX6_positionOf : MethodName := ⟨RX6, "positionOf", "(I)I"⟩
abbrev cX6_positionByTracks : ByteArray := prog_8_method_48_code
def yX6_positionByTracks : MethodName := ⟨RX6, "positionByTracks", "(I)I"⟩
abbrev cX6_turnsOf : ByteArray := prog_8_method_49_code
def yX6_turnsOf : MethodName := ⟨RX6, "turnsOf", "(I)I"⟩
abbrev cX6_placeOf : ByteArray := prog_8_method_50_code
def yX6_placeOf : MethodName := ⟨RX6, "placeOf", "(I)I"⟩
abbrev cX6_directionOf : ByteArray := prog_8_method_51_code
def yX6_directionOf : MethodName := ⟨RX6, "directionOf", "(I)I"⟩
abbrev cX6_countOfA : ByteArray := prog_8_method_52_code
def yX6_countOfA : MethodName := ⟨RX6, "countOfA", "(I)I"⟩
abbrev cX6_leader : ByteArray := prog_8_method_53_code
def yX6_leader : MethodName := ⟨RX6, "leader", "()I"⟩
abbrev cX6_stepTo : ByteArray := prog_8_method_54_code
def yX6_stepTo : MethodName := ⟨RX6, "stepTo", "(II)I"⟩
abbrev cX6_logLength : ByteArray := prog_8_method_55_code
def yX6_logLength : MethodName := ⟨RX6, "logLength", "(I)I"⟩
abbrev cX6_loggedStep : ByteArray := prog_8_method_56_code
def yX6_loggedStep : MethodName := ⟨RX6, "loggedStep", "(II)I"⟩
abbrev cX6_speedOf : ByteArray := prog_8_method_57_code
def yX6_speedOf : MethodName := ⟨RX6, "speedOf", "(I)D"⟩
abbrev cX6_errorsOf : ByteArray := prog_8_method_58_code
def yX6_errorsOf : MethodName := ⟨RX6, "errorsOf", "(I)I"⟩
abbrev cX6_slipsOf : ByteArray := prog_8_method_59_code
def yX6_slipsOf : MethodName := ⟨RX6, "slipsOf", "(I)I"⟩
abbrev cX6_distanceOf : ByteArray := prog_8_method_60_code
def yX6_distanceOf : MethodName := ⟨RX6, "distanceOf", "(I)I"⟩
abbrev cX6_ticksOf : ByteArray := prog_8_method_61_code
def yX6_ticksOf : MethodName := ⟨RX6, "ticksOf", "(I)I"⟩
abbrev cX6_counts : ByteArray := prog_8_method_62_code
def yX6_counts : MethodName := ⟨RX6, "counts", "()I"⟩
abbrev cX6_rule : ByteArray := prog_8_method_63_code
def yX6_rule : MethodName := ⟨RX6, "rule", "()I"⟩
abbrev cX6_recordedStates : ByteArray := prog_8_method_64_code
def yX6_recordedStates : MethodName := ⟨RX6, "recordedStates", "()I"⟩
def RJ9 : String := "java/lang/Math"
def TJ9 : u_T := fun k => match k with
  | _ => ("", "", "", false)
def tyJ9 : Nat → FieldType := fun k => match k with
  | _ => .int
abbrev wsJ90 : List Cond := u_ws RJ9 TJ9 0
theorem nmJ9 : ∀ a, a < 0 → ∀ b, b < 0 → a ≠ b → (TJ9 a).2.1 ≠ (TJ9 b).2.1 := by decide +kernel
theorem tyJ9_ok : ∀ k, k < 0 → parseFieldDescriptor (TJ9 k).2.2.1 = some (tyJ9 k) := by decide +kernel
abbrev cJ9_floorDiv_7cf53 : ByteArray := prog_13_method_47_code
def yJ9_floorDiv_7cf53 : MethodName := ⟨RJ9, "floorDiv", "(II)I"⟩
abbrev cJ9_floorMod_7cf53 : ByteArray := prog_13_method_50_code
def yJ9_floorMod_7cf53 : MethodName := ⟨RJ9, "floorMod", "(II)I"⟩
abbrev cJ9_abs_0f7a4 : ByteArray := prog_13_method_59_code
def yJ9_abs_0f7a4 : MethodName := ⟨RJ9, "abs", "(I)I"⟩
def RJ0 : String := "java/lang/String"
def TJ0 : u_T := fun k => match k with
  | _ => ("", "", "", false)
def tyJ0 : Nat → FieldType := fun k => match k with
  | _ => .int
abbrev wsJ00 : List Cond := u_ws RJ0 TJ0 0
theorem nmJ0 : ∀ a, a < 0 → ∀ b, b < 0 → a ≠ b → (TJ0 a).2.1 ≠ (TJ0 b).2.1 := by decide +kernel
theorem tyJ0_ok : ∀ k, k < 0 → parseFieldDescriptor (TJ0 k).2.2.1 = some (tyJ0 k) := by decide +kernel
def RL : String := "QuadSnailLaw"
abbrev cL_feel : ByteArray := method_3_code
def yL_feel : MethodName := ⟨RL, "feel", "(LQuadSnail;III[J)I"⟩
abbrev cL_crawl : ByteArray := method_4_code
def yL_crawl : MethodName := ⟨RL, "crawl", "(LQuadSnail;II[J)I"⟩
abbrev cL_meetMark : ByteArray := method_5_code
def yL_meetMark : MethodName := ⟨RL, "meetMark", "(LQuadSnail;I[J)I"⟩
abbrev cL_goBack : ByteArray := method_6_code
def yL_goBack : MethodName := ⟨RL, "goBack", "(LQuadSnail;II[J)I"⟩
abbrev cL_setRule : ByteArray := method_7_code
def yL_setRule : MethodName := ⟨RL, "setRule", "(LQuadSnail;I[J)I"⟩
abbrev cL_setCounts : ByteArray := method_8_code
def yL_setCounts : MethodName := ⟨RL, "setCounts", "(LQuadSnail;I[J)I"⟩
abbrev cL_type : ByteArray := method_9_code
def yL_type : MethodName := ⟨RL, "type", "(LQuadSnail;C[J)I"⟩
abbrev cL_impossibleOrder : ByteArray := method_10_code
def yL_impossibleOrder : MethodName := ⟨RL, "impossibleOrder", "(LQuadSnail;[J)I"⟩
abbrev cL_carryOut : ByteArray := method_11_code
def yL_carryOut : MethodName := ⟨RL, "carryOut", "(LQuadSnail;[J)I"⟩
abbrev cL_undo : ByteArray := method_12_code
def yL_undo : MethodName := ⟨RL, "undo", "(LQuadSnail;[J)I"⟩
abbrev cL_restoreSnapshot : ByteArray := method_13_code
def yL_restoreSnapshot : MethodName := ⟨RL, "restoreSnapshot", "(LQuadSnail;[J)I"⟩
abbrev cL_stateOf : ByteArray := method_14_code
def yL_stateOf : MethodName := ⟨RL, "stateOf", "(LQuadSnail;I[J)I"⟩
abbrev cL_positionOf : ByteArray := method_15_code
def yL_positionOf : MethodName := ⟨RL, "positionOf", "(LQuadSnail;I[J)I"⟩
abbrev cL_positionByTracks : ByteArray := method_16_code
def yL_positionByTracks : MethodName := ⟨RL, "positionByTracks", "(LQuadSnail;I[J)I"⟩
abbrev cL_turnsOf : ByteArray := method_17_code
def yL_turnsOf : MethodName := ⟨RL, "turnsOf", "(LQuadSnail;I[J)I"⟩
abbrev cL_placeOf : ByteArray := method_18_code
def yL_placeOf : MethodName := ⟨RL, "placeOf", "(LQuadSnail;I[J)I"⟩
abbrev cL_directionOf : ByteArray := method_19_code
def yL_directionOf : MethodName := ⟨RL, "directionOf", "(LQuadSnail;I[J)I"⟩
abbrev cL_countOfA : ByteArray := method_20_code
def yL_countOfA : MethodName := ⟨RL, "countOfA", "(LQuadSnail;I[J)I"⟩
abbrev cL_stepTo : ByteArray := method_21_code
def yL_stepTo : MethodName := ⟨RL, "stepTo", "(LQuadSnail;II[J)I"⟩
abbrev cL_logLength : ByteArray := method_22_code
def yL_logLength : MethodName := ⟨RL, "logLength", "(LQuadSnail;I[J)I"⟩
abbrev cL_loggedStep : ByteArray := method_23_code
def yL_loggedStep : MethodName := ⟨RL, "loggedStep", "(LQuadSnail;II[J)I"⟩
abbrev cL_speedOf : ByteArray := method_24_code
def yL_speedOf : MethodName := ⟨RL, "speedOf", "(LQuadSnail;I[D)I"⟩
abbrev cL_errorsOf : ByteArray := method_25_code
def yL_errorsOf : MethodName := ⟨RL, "errorsOf", "(LQuadSnail;I[J)I"⟩
abbrev cL_slipsOf : ByteArray := method_26_code
def yL_slipsOf : MethodName := ⟨RL, "slipsOf", "(LQuadSnail;I[J)I"⟩
abbrev cL_distanceOf : ByteArray := method_27_code
def yL_distanceOf : MethodName := ⟨RL, "distanceOf", "(LQuadSnail;I[J)I"⟩
abbrev cL_ticksOf : ByteArray := method_28_code
def yL_ticksOf : MethodName := ⟨RL, "ticksOf", "(LQuadSnail;I[J)I"⟩
abbrev cL_law : ByteArray := code
def yL_law : MethodName := ⟨RL, "law", "([I)Z"⟩
def wsJ9_floorDiv_7cf53 : List Cond := .code yJ9_floorDiv_7cf53 cJ9_floorDiv_7cf53 3 (some .int) :: ([])
def wsJ9_floorMod_7cf53 : List Cond := .code yJ9_floorMod_7cf53 cJ9_floorMod_7cf53 3 (some .int) :: ([])
def wsJ9_abs_0f7a4 : List Cond := .code yJ9_abs_0f7a4 cJ9_abs_0f7a4 1 (some .int) :: ([])
abbrev vwCl : List vw_C := [(RX0, TX0, 6), (RX1, TX1, 3), (RX2, TX2, 2), (RX3, TX3, 6), (RX4, TX4, 12), (RX5, TX5, 6), (RX6, TX6, 12)]
/-! ===== END printed: names ===== -/
end
section
theorem dX0_init_0 : decode cX0_init 0 = .ok (.aload_n 0, 1) := by decide +kernel
theorem dX0_init_1 : decode cX0_init 1 = .ok (.invokespecial 3, 3) := by decide +kernel
theorem dX0_init_4 : decode cX0_init 4 = .ok (.aload_n 0, 1) := by decide +kernel
theorem dX0_init_5 : decode cX0_init 5 = .ok (.new 9, 3) := by decide +kernel
theorem dX0_init_8 : decode cX0_init 8 = .ok (.dup, 1) := by decide +kernel
theorem dX0_init_9 : decode cX0_init 9 = .ok (.invokespecial 11, 3) := by decide +kernel
theorem dX0_init_12 : decode cX0_init 12 = .ok (.putfield 12, 3) := by decide +kernel
theorem dX0_init_15 : decode cX0_init 15 = .ok (.aload_n 0, 1) := by decide +kernel
theorem dX0_init_16 : decode cX0_init 16 = .ok (.new 9, 3) := by decide +kernel
theorem dX0_init_19 : decode cX0_init 19 = .ok (.dup, 1) := by decide +kernel
theorem dX0_init_20 : decode cX0_init 20 = .ok (.invokespecial 11, 3) := by decide +kernel
theorem dX0_init_23 : decode cX0_init 23 = .ok (.putfield 18, 3) := by decide +kernel
theorem dX0_init_26 : decode cX0_init 26 = .ok (.aload_n 0, 1) := by decide +kernel
theorem dX0_init_27 : decode cX0_init 27 = .ok (.new 9, 3) := by decide +kernel
theorem dX0_init_30 : decode cX0_init 30 = .ok (.dup, 1) := by decide +kernel
theorem dX0_init_31 : decode cX0_init 31 = .ok (.invokespecial 11, 3) := by decide +kernel
theorem dX0_init_34 : decode cX0_init 34 = .ok (.putfield 21, 3) := by decide +kernel
theorem dX0_init_37 : decode cX0_init 37 = .ok (.aload_n 0, 1) := by decide +kernel
theorem dX0_init_38 : decode cX0_init 38 = .ok (.new 9, 3) := by decide +kernel
theorem dX0_init_41 : decode cX0_init 41 = .ok (.dup, 1) := by decide +kernel
theorem dX0_init_42 : decode cX0_init 42 = .ok (.invokespecial 11, 3) := by decide +kernel
theorem dX0_init_45 : decode cX0_init 45 = .ok (.putfield 24, 3) := by decide +kernel
theorem dX0_init_48 : decode cX0_init 48 = .ok (.aload_n 0, 1) := by decide +kernel
theorem dX0_init_49 : decode cX0_init 49 = .ok (.iconst 0, 1) := by decide +kernel
theorem dX0_init_50 : decode cX0_init 50 = .ok (.putfield 27, 3) := by decide +kernel
theorem dX0_init_53 : decode cX0_init 53 = .ok (.aload_n 0, 1) := by decide +kernel
theorem dX0_init_54 : decode cX0_init 54 = .ok (.bipush 24, 2) := by decide +kernel
theorem dX0_init_56 : decode cX0_init 56 = .ok (.putfield 31, 3) := by decide +kernel
theorem dX0_init_59 : decode cX0_init 59 = .ok (.return_, 1) := by decide +kernel
theorem dX0_snail_0 : decode cX0_snail 0 = .ok (.iload_n 1, 1) := by decide +kernel
theorem dX0_snail_1 : decode cX0_snail 1 = .ok (.tableswitch 42 0 2 #[27, 32, 37], 27) := by decide +kernel
theorem dX0_snail_28 : decode cX0_snail 28 = .ok (.aload_n 0, 1) := by decide +kernel
theorem dX0_snail_29 : decode cX0_snail 29 = .ok (.getfield 12, 3) := by decide +kernel
theorem dX0_snail_32 : decode cX0_snail 32 = .ok (.areturn, 1) := by decide +kernel
theorem dX0_snail_33 : decode cX0_snail 33 = .ok (.aload_n 0, 1) := by decide +kernel
theorem dX0_snail_34 : decode cX0_snail 34 = .ok (.getfield 18, 3) := by decide +kernel
theorem dX0_snail_37 : decode cX0_snail 37 = .ok (.areturn, 1) := by decide +kernel
theorem dX0_snail_38 : decode cX0_snail 38 = .ok (.aload_n 0, 1) := by decide +kernel
theorem dX0_snail_39 : decode cX0_snail 39 = .ok (.getfield 21, 3) := by decide +kernel
theorem dX0_snail_42 : decode cX0_snail 42 = .ok (.areturn, 1) := by decide +kernel
theorem dX0_snail_43 : decode cX0_snail 43 = .ok (.aload_n 0, 1) := by decide +kernel
theorem dX0_snail_44 : decode cX0_snail 44 = .ok (.getfield 24, 3) := by decide +kernel
theorem dX0_snail_47 : decode cX0_snail 47 = .ok (.areturn, 1) := by decide +kernel
theorem dX0_sumOfPositions_0 : decode cX0_sumOfPositions 0 = .ok (.aload_n 0, 1) := by decide +kernel
theorem dX0_sumOfPositions_1 : decode cX0_sumOfPositions 1 = .ok (.getfield 12, 3) := by decide +kernel
theorem dX0_sumOfPositions_4 : decode cX0_sumOfPositions 4 = .ok (.getfield 34, 3) := by decide +kernel
theorem dX0_sumOfPositions_7 : decode cX0_sumOfPositions 7 = .ok (.aload_n 0, 1) := by decide +kernel
theorem dX0_sumOfPositions_8 : decode cX0_sumOfPositions 8 = .ok (.getfield 18, 3) := by decide +kernel
theorem dX0_sumOfPositions_11 : decode cX0_sumOfPositions 11 = .ok (.getfield 34, 3) := by decide +kernel
theorem dX0_sumOfPositions_14 : decode cX0_sumOfPositions 14 = .ok (.iadd, 1) := by decide +kernel
theorem dX0_sumOfPositions_15 : decode cX0_sumOfPositions 15 = .ok (.aload_n 0, 1) := by decide +kernel
theorem dX0_sumOfPositions_16 : decode cX0_sumOfPositions 16 = .ok (.getfield 21, 3) := by decide +kernel
theorem dX0_sumOfPositions_19 : decode cX0_sumOfPositions 19 = .ok (.getfield 34, 3) := by decide +kernel
theorem dX0_sumOfPositions_22 : decode cX0_sumOfPositions 22 = .ok (.iadd, 1) := by decide +kernel
theorem dX0_sumOfPositions_23 : decode cX0_sumOfPositions 23 = .ok (.aload_n 0, 1) := by decide +kernel
theorem dX0_sumOfPositions_24 : decode cX0_sumOfPositions 24 = .ok (.getfield 24, 3) := by decide +kernel
theorem dX0_sumOfPositions_27 : decode cX0_sumOfPositions 27 = .ok (.getfield 34, 3) := by decide +kernel
theorem dX0_sumOfPositions_30 : decode cX0_sumOfPositions 30 = .ok (.iadd, 1) := by decide +kernel
theorem dX0_sumOfPositions_31 : decode cX0_sumOfPositions 31 = .ok (.ireturn, 1) := by decide +kernel
theorem dX0_copyFrom_0 : decode cX0_copyFrom 0 = .ok (.aload_n 0, 1) := by decide +kernel
theorem dX0_copyFrom_1 : decode cX0_copyFrom 1 = .ok (.getfield 12, 3) := by decide +kernel
theorem dX0_copyFrom_4 : decode cX0_copyFrom 4 = .ok (.aload_n 1, 1) := by decide +kernel
theorem dX0_copyFrom_5 : decode cX0_copyFrom 5 = .ok (.getfield 12, 3) := by decide +kernel
theorem dX0_copyFrom_8 : decode cX0_copyFrom 8 = .ok (.invokevirtual 37, 3) := by decide +kernel
theorem dX0_copyFrom_11 : decode cX0_copyFrom 11 = .ok (.aload_n 0, 1) := by decide +kernel
theorem dX0_copyFrom_12 : decode cX0_copyFrom 12 = .ok (.getfield 18, 3) := by decide +kernel
theorem dX0_copyFrom_15 : decode cX0_copyFrom 15 = .ok (.aload_n 1, 1) := by decide +kernel
theorem dX0_copyFrom_16 : decode cX0_copyFrom 16 = .ok (.getfield 18, 3) := by decide +kernel
theorem dX0_copyFrom_19 : decode cX0_copyFrom 19 = .ok (.invokevirtual 37, 3) := by decide +kernel
theorem dX0_copyFrom_22 : decode cX0_copyFrom 22 = .ok (.aload_n 0, 1) := by decide +kernel
theorem dX0_copyFrom_23 : decode cX0_copyFrom 23 = .ok (.getfield 21, 3) := by decide +kernel
theorem dX0_copyFrom_26 : decode cX0_copyFrom 26 = .ok (.aload_n 1, 1) := by decide +kernel
theorem dX0_copyFrom_27 : decode cX0_copyFrom 27 = .ok (.getfield 21, 3) := by decide +kernel
theorem dX0_copyFrom_30 : decode cX0_copyFrom 30 = .ok (.invokevirtual 37, 3) := by decide +kernel
theorem dX0_copyFrom_33 : decode cX0_copyFrom 33 = .ok (.aload_n 0, 1) := by decide +kernel
theorem dX0_copyFrom_34 : decode cX0_copyFrom 34 = .ok (.getfield 24, 3) := by decide +kernel
theorem dX0_copyFrom_37 : decode cX0_copyFrom 37 = .ok (.aload_n 1, 1) := by decide +kernel
theorem dX0_copyFrom_38 : decode cX0_copyFrom 38 = .ok (.getfield 24, 3) := by decide +kernel
theorem dX0_copyFrom_41 : decode cX0_copyFrom 41 = .ok (.invokevirtual 37, 3) := by decide +kernel
theorem dX0_copyFrom_44 : decode cX0_copyFrom 44 = .ok (.aload_n 0, 1) := by decide +kernel
theorem dX0_copyFrom_45 : decode cX0_copyFrom 45 = .ok (.aload_n 1, 1) := by decide +kernel
theorem dX0_copyFrom_46 : decode cX0_copyFrom 46 = .ok (.getfield 27, 3) := by decide +kernel
theorem dX0_copyFrom_49 : decode cX0_copyFrom 49 = .ok (.putfield 27, 3) := by decide +kernel
theorem dX0_copyFrom_52 : decode cX0_copyFrom 52 = .ok (.aload_n 0, 1) := by decide +kernel
theorem dX0_copyFrom_53 : decode cX0_copyFrom 53 = .ok (.aload_n 1, 1) := by decide +kernel
theorem dX0_copyFrom_54 : decode cX0_copyFrom 54 = .ok (.getfield 31, 3) := by decide +kernel
theorem dX0_copyFrom_57 : decode cX0_copyFrom 57 = .ok (.putfield 31, 3) := by decide +kernel
theorem dX0_copyFrom_60 : decode cX0_copyFrom 60 = .ok (.return_, 1) := by decide +kernel
theorem dX1_init_0 : decode cX1_init 0 = .ok (.aload_n 0, 1) := by decide +kernel
theorem dX1_init_1 : decode cX1_init 1 = .ok (.invokespecial 3, 3) := by decide +kernel
theorem dX1_init_4 : decode cX1_init 4 = .ok (.aload_n 0, 1) := by decide +kernel
theorem dX1_init_5 : decode cX1_init 5 = .ok (.bipush 48, 2) := by decide +kernel
theorem dX1_init_7 : decode cX1_init 7 = .ok (.newarray .int, 2) := by decide +kernel
theorem dX1_init_9 : decode cX1_init 9 = .ok (.putfield 11, 3) := by decide +kernel
theorem dX1_init_12 : decode cX1_init 12 = .ok (.return_, 1) := by decide +kernel
theorem dX1_add_0 : decode cX1_add 0 = .ok (.aload_n 0, 1) := by decide +kernel
theorem dX1_add_1 : decode cX1_add 1 = .ok (.getfield 15, 3) := by decide +kernel
theorem dX1_add_4 : decode cX1_add 4 = .ok (.bipush 16, 2) := by decide +kernel
theorem dX1_add_6 : decode cX1_add 6 = .ok (.if_icmp .ge 16, 3) := by decide +kernel
theorem dX1_add_9 : decode cX1_add 9 = .ok (.aload_n 0, 1) := by decide +kernel
theorem dX1_add_10 : decode cX1_add 10 = .ok (.dup, 1) := by decide +kernel
theorem dX1_add_11 : decode cX1_add 11 = .ok (.getfield 15, 3) := by decide +kernel
theorem dX1_add_14 : decode cX1_add 14 = .ok (.iconst 1, 1) := by decide +kernel
theorem dX1_add_15 : decode cX1_add 15 = .ok (.iadd, 1) := by decide +kernel
theorem dX1_add_16 : decode cX1_add 16 = .ok (.putfield 15, 3) := by decide +kernel
theorem dX1_add_19 : decode cX1_add 19 = .ok (.goto 16, 3) := by decide +kernel
theorem dX1_add_22 : decode cX1_add 22 = .ok (.aload_n 0, 1) := by decide +kernel
theorem dX1_add_23 : decode cX1_add 23 = .ok (.aload_n 0, 1) := by decide +kernel
theorem dX1_add_24 : decode cX1_add 24 = .ok (.getfield 19, 3) := by decide +kernel
theorem dX1_add_27 : decode cX1_add 27 = .ok (.iconst 1, 1) := by decide +kernel
theorem dX1_add_28 : decode cX1_add 28 = .ok (.iadd, 1) := by decide +kernel
theorem dX1_add_29 : decode cX1_add 29 = .ok (.bipush 16, 2) := by decide +kernel
theorem dX1_add_31 : decode cX1_add 31 = .ok (.irem, 1) := by decide +kernel
theorem dX1_add_32 : decode cX1_add 32 = .ok (.putfield 19, 3) := by decide +kernel
theorem dX1_add_35 : decode cX1_add 35 = .ok (.aload_n 0, 1) := by decide +kernel
theorem dX1_add_36 : decode cX1_add 36 = .ok (.aload_n 0, 1) := by decide +kernel
theorem dX1_add_37 : decode cX1_add 37 = .ok (.getfield 15, 3) := by decide +kernel
theorem dX1_add_40 : decode cX1_add 40 = .ok (.iconst 1, 1) := by decide +kernel
theorem dX1_add_41 : decode cX1_add 41 = .ok (.isub, 1) := by decide +kernel
theorem dX1_add_42 : decode cX1_add 42 = .ok (.invokevirtual 22, 3) := by decide +kernel
theorem dX1_add_45 : decode cX1_add 45 = .ok (.istore 4, 2) := by decide +kernel
theorem dX1_add_47 : decode cX1_add 47 = .ok (.aload_n 0, 1) := by decide +kernel
theorem dX1_add_48 : decode cX1_add 48 = .ok (.iload 4, 2) := by decide +kernel
theorem dX1_add_50 : decode cX1_add 50 = .ok (.iconst 0, 1) := by decide +kernel
theorem dX1_add_51 : decode cX1_add 51 = .ok (.iadd, 1) := by decide +kernel
theorem dX1_add_52 : decode cX1_add 52 = .ok (.iload_n 1, 1) := by decide +kernel
theorem dX1_add_53 : decode cX1_add 53 = .ok (.invokevirtual 26, 3) := by decide +kernel
theorem dX1_add_56 : decode cX1_add 56 = .ok (.aload_n 0, 1) := by decide +kernel
theorem dX1_add_57 : decode cX1_add 57 = .ok (.iload 4, 2) := by decide +kernel
theorem dX1_add_59 : decode cX1_add 59 = .ok (.iconst 1, 1) := by decide +kernel
theorem dX1_add_60 : decode cX1_add 60 = .ok (.iadd, 1) := by decide +kernel
theorem dX1_add_61 : decode cX1_add 61 = .ok (.iload_n 2, 1) := by decide +kernel
theorem dX1_add_62 : decode cX1_add 62 = .ok (.invokevirtual 26, 3) := by decide +kernel
theorem dX1_add_65 : decode cX1_add 65 = .ok (.aload_n 0, 1) := by decide +kernel
theorem dX1_add_66 : decode cX1_add 66 = .ok (.iload 4, 2) := by decide +kernel
theorem dX1_add_68 : decode cX1_add 68 = .ok (.iconst 2, 1) := by decide +kernel
theorem dX1_add_69 : decode cX1_add 69 = .ok (.iadd, 1) := by decide +kernel
theorem dX1_add_70 : decode cX1_add 70 = .ok (.iload_n 3, 1) := by decide +kernel
theorem dX1_add_71 : decode cX1_add 71 = .ok (.invokevirtual 26, 3) := by decide +kernel
theorem dX1_add_74 : decode cX1_add 74 = .ok (.return_, 1) := by decide +kernel
theorem dX1_dropLatest_0 : decode cX1_dropLatest 0 = .ok (.aload_n 0, 1) := by decide +kernel
theorem dX1_dropLatest_1 : decode cX1_dropLatest 1 = .ok (.getfield 15, 3) := by decide +kernel
theorem dX1_dropLatest_4 : decode cX1_dropLatest 4 = .ok (.ifCond .le 13, 3) := by decide +kernel
theorem dX1_dropLatest_7 : decode cX1_dropLatest 7 = .ok (.aload_n 0, 1) := by decide +kernel
theorem dX1_dropLatest_8 : decode cX1_dropLatest 8 = .ok (.dup, 1) := by decide +kernel
theorem dX1_dropLatest_9 : decode cX1_dropLatest 9 = .ok (.getfield 15, 3) := by decide +kernel
theorem dX1_dropLatest_12 : decode cX1_dropLatest 12 = .ok (.iconst 1, 1) := by decide +kernel
theorem dX1_dropLatest_13 : decode cX1_dropLatest 13 = .ok (.isub, 1) := by decide +kernel
theorem dX1_dropLatest_14 : decode cX1_dropLatest 14 = .ok (.putfield 15, 3) := by decide +kernel
theorem dX1_dropLatest_17 : decode cX1_dropLatest 17 = .ok (.return_, 1) := by decide +kernel
theorem dX1_step_0 : decode cX1_step 0 = .ok (.aload_n 0, 1) := by decide +kernel
theorem dX1_step_1 : decode cX1_step 1 = .ok (.iload_n 1, 1) := by decide +kernel
theorem dX1_step_2 : decode cX1_step 2 = .ok (.iconst 0, 1) := by decide +kernel
theorem dX1_step_3 : decode cX1_step 3 = .ok (.invokevirtual 30, 3) := by decide +kernel
theorem dX1_step_6 : decode cX1_step 6 = .ok (.ireturn, 1) := by decide +kernel
theorem dX1_spent_0 : decode cX1_spent 0 = .ok (.aload_n 0, 1) := by decide +kernel
theorem dX1_spent_1 : decode cX1_spent 1 = .ok (.iload_n 1, 1) := by decide +kernel
theorem dX1_spent_2 : decode cX1_spent 2 = .ok (.iconst 1, 1) := by decide +kernel
theorem dX1_spent_3 : decode cX1_spent 3 = .ok (.invokevirtual 30, 3) := by decide +kernel
theorem dX1_spent_6 : decode cX1_spent 6 = .ok (.ireturn, 1) := by decide +kernel
theorem dX1_before_0 : decode cX1_before 0 = .ok (.aload_n 0, 1) := by decide +kernel
theorem dX1_before_1 : decode cX1_before 1 = .ok (.iload_n 1, 1) := by decide +kernel
theorem dX1_before_2 : decode cX1_before 2 = .ok (.iconst 2, 1) := by decide +kernel
theorem dX1_before_3 : decode cX1_before 3 = .ok (.invokevirtual 30, 3) := by decide +kernel
theorem dX1_before_6 : decode cX1_before 6 = .ok (.ireturn, 1) := by decide +kernel
theorem dX1_speed_0 : decode cX1_speed 0 = .ok (.iconst 0, 1) := by decide +kernel
theorem dX1_speed_1 : decode cX1_speed 1 = .ok (.istore_n 1, 1) := by decide +kernel
theorem dX1_speed_2 : decode cX1_speed 2 = .ok (.iconst 0, 1) := by decide +kernel
theorem dX1_speed_3 : decode cX1_speed 3 = .ok (.istore_n 2, 1) := by decide +kernel
theorem dX1_speed_4 : decode cX1_speed 4 = .ok (.iconst 0, 1) := by decide +kernel
theorem dX1_speed_5 : decode cX1_speed 5 = .ok (.istore_n 3, 1) := by decide +kernel
theorem dX1_speed_6 : decode cX1_speed 6 = .ok (.iload_n 3, 1) := by decide +kernel
theorem dX1_speed_7 : decode cX1_speed 7 = .ok (.aload_n 0, 1) := by decide +kernel
theorem dX1_speed_8 : decode cX1_speed 8 = .ok (.getfield 15, 3) := by decide +kernel
theorem dX1_speed_11 : decode cX1_speed 11 = .ok (.if_icmp .ge 25, 3) := by decide +kernel
theorem dX1_speed_14 : decode cX1_speed 14 = .ok (.iload_n 1, 1) := by decide +kernel
theorem dX1_speed_15 : decode cX1_speed 15 = .ok (.aload_n 0, 1) := by decide +kernel
theorem dX1_speed_16 : decode cX1_speed 16 = .ok (.iload_n 3, 1) := by decide +kernel
theorem dX1_speed_17 : decode cX1_speed 17 = .ok (.invokevirtual 34, 3) := by decide +kernel
theorem dX1_speed_20 : decode cX1_speed 20 = .ok (.iadd, 1) := by decide +kernel
theorem dX1_speed_21 : decode cX1_speed 21 = .ok (.istore_n 1, 1) := by decide +kernel
theorem dX1_speed_22 : decode cX1_speed 22 = .ok (.iload_n 2, 1) := by decide +kernel
theorem dX1_speed_23 : decode cX1_speed 23 = .ok (.aload_n 0, 1) := by decide +kernel
theorem dX1_speed_24 : decode cX1_speed 24 = .ok (.iload_n 3, 1) := by decide +kernel
theorem dX1_speed_25 : decode cX1_speed 25 = .ok (.invokevirtual 37, 3) := by decide +kernel
theorem dX1_speed_28 : decode cX1_speed 28 = .ok (.iadd, 1) := by decide +kernel
theorem dX1_speed_29 : decode cX1_speed 29 = .ok (.istore_n 2, 1) := by decide +kernel
theorem dX1_speed_30 : decode cX1_speed 30 = .ok (.iinc 3 1, 3) := by decide +kernel
theorem dX1_speed_33 : decode cX1_speed 33 = .ok (.goto (-27), 3) := by decide +kernel
theorem dX1_speed_36 : decode cX1_speed 36 = .ok (.iload_n 2, 1) := by decide +kernel
theorem dX1_speed_37 : decode cX1_speed 37 = .ok (.iconst 1, 1) := by decide +kernel
theorem dX1_speed_38 : decode cX1_speed 38 = .ok (.if_icmp .ge 7, 3) := by decide +kernel
theorem dX1_speed_41 : decode cX1_speed 41 = .ok (.dconst 0, 1) := by decide +kernel
theorem dX1_speed_42 : decode cX1_speed 42 = .ok (.goto 12, 3) := by decide +kernel
theorem dX1_speed_45 : decode cX1_speed 45 = .ok (.ldc2_w 40, 3) := by decide +kernel
theorem dX1_speed_48 : decode cX1_speed 48 = .ok (.iload_n 1, 1) := by decide +kernel
theorem dX1_speed_49 : decode cX1_speed 49 = .ok (.i2d, 1) := by decide +kernel
theorem dX1_speed_50 : decode cX1_speed 50 = .ok (.dmul, 1) := by decide +kernel
theorem dX1_speed_51 : decode cX1_speed 51 = .ok (.iload_n 2, 1) := by decide +kernel
theorem dX1_speed_52 : decode cX1_speed 52 = .ok (.i2d, 1) := by decide +kernel
theorem dX1_speed_53 : decode cX1_speed 53 = .ok (.ddiv, 1) := by decide +kernel
theorem dX1_speed_54 : decode cX1_speed 54 = .ok (.dreturn, 1) := by decide +kernel
theorem dX1_copyFrom_0 : decode cX1_copyFrom 0 = .ok (.iconst 0, 1) := by decide +kernel
theorem dX1_copyFrom_1 : decode cX1_copyFrom 1 = .ok (.istore_n 2, 1) := by decide +kernel
theorem dX1_copyFrom_2 : decode cX1_copyFrom 2 = .ok (.iload_n 2, 1) := by decide +kernel
theorem dX1_copyFrom_3 : decode cX1_copyFrom 3 = .ok (.aload_n 0, 1) := by decide +kernel
theorem dX1_copyFrom_4 : decode cX1_copyFrom 4 = .ok (.getfield 11, 3) := by decide +kernel
theorem dX1_copyFrom_7 : decode cX1_copyFrom 7 = .ok (.arraylength, 1) := by decide +kernel
theorem dX1_copyFrom_8 : decode cX1_copyFrom 8 = .ok (.if_icmp .ge 30, 3) := by decide +kernel
theorem dX1_copyFrom_11 : decode cX1_copyFrom 11 = .ok (.iload_n 2, 1) := by decide +kernel
theorem dX1_copyFrom_12 : decode cX1_copyFrom 12 = .ok (.aload_n 1, 1) := by decide +kernel
theorem dX1_copyFrom_13 : decode cX1_copyFrom 13 = .ok (.getfield 11, 3) := by decide +kernel
theorem dX1_copyFrom_16 : decode cX1_copyFrom 16 = .ok (.arraylength, 1) := by decide +kernel
theorem dX1_copyFrom_17 : decode cX1_copyFrom 17 = .ok (.if_icmp .ge 21, 3) := by decide +kernel
theorem dX1_copyFrom_20 : decode cX1_copyFrom 20 = .ok (.aload_n 0, 1) := by decide +kernel
theorem dX1_copyFrom_21 : decode cX1_copyFrom 21 = .ok (.getfield 11, 3) := by decide +kernel
theorem dX1_copyFrom_24 : decode cX1_copyFrom 24 = .ok (.iload_n 2, 1) := by decide +kernel
theorem dX1_copyFrom_25 : decode cX1_copyFrom 25 = .ok (.aload_n 1, 1) := by decide +kernel
theorem dX1_copyFrom_26 : decode cX1_copyFrom 26 = .ok (.getfield 11, 3) := by decide +kernel
theorem dX1_copyFrom_29 : decode cX1_copyFrom 29 = .ok (.iload_n 2, 1) := by decide +kernel
theorem dX1_copyFrom_30 : decode cX1_copyFrom 30 = .ok (.iaload, 1) := by decide +kernel
theorem dX1_copyFrom_31 : decode cX1_copyFrom 31 = .ok (.iastore, 1) := by decide +kernel
theorem dX1_copyFrom_32 : decode cX1_copyFrom 32 = .ok (.iinc 2 1, 3) := by decide +kernel
theorem dX1_copyFrom_35 : decode cX1_copyFrom 35 = .ok (.goto (-33), 3) := by decide +kernel
theorem dX1_copyFrom_38 : decode cX1_copyFrom 38 = .ok (.aload_n 0, 1) := by decide +kernel
theorem dX1_copyFrom_39 : decode cX1_copyFrom 39 = .ok (.aload_n 1, 1) := by decide +kernel
theorem dX1_copyFrom_40 : decode cX1_copyFrom 40 = .ok (.getfield 19, 3) := by decide +kernel
theorem dX1_copyFrom_43 : decode cX1_copyFrom 43 = .ok (.putfield 19, 3) := by decide +kernel
theorem dX1_copyFrom_46 : decode cX1_copyFrom 46 = .ok (.aload_n 0, 1) := by decide +kernel
theorem dX1_copyFrom_47 : decode cX1_copyFrom 47 = .ok (.aload_n 1, 1) := by decide +kernel
theorem dX1_copyFrom_48 : decode cX1_copyFrom 48 = .ok (.getfield 15, 3) := by decide +kernel
theorem dX1_copyFrom_51 : decode cX1_copyFrom 51 = .ok (.putfield 15, 3) := by decide +kernel
theorem dX1_copyFrom_54 : decode cX1_copyFrom 54 = .ok (.return_, 1) := by decide +kernel
theorem dX1_read_0 : decode cX1_read 0 = .ok (.aload_n 0, 1) := by decide +kernel
theorem dX1_read_1 : decode cX1_read 1 = .ok (.iload_n 1, 1) := by decide +kernel
theorem dX1_read_2 : decode cX1_read 2 = .ok (.invokevirtual 22, 3) := by decide +kernel
theorem dX1_read_5 : decode cX1_read 5 = .ok (.iload_n 2, 1) := by decide +kernel
theorem dX1_read_6 : decode cX1_read 6 = .ok (.iadd, 1) := by decide +kernel
theorem dX1_read_7 : decode cX1_read 7 = .ok (.istore_n 3, 1) := by decide +kernel
theorem dX1_read_8 : decode cX1_read 8 = .ok (.iload_n 3, 1) := by decide +kernel
theorem dX1_read_9 : decode cX1_read 9 = .ok (.ifCond .lt 12, 3) := by decide +kernel
theorem dX1_read_12 : decode cX1_read 12 = .ok (.iload_n 3, 1) := by decide +kernel
theorem dX1_read_13 : decode cX1_read 13 = .ok (.aload_n 0, 1) := by decide +kernel
theorem dX1_read_14 : decode cX1_read 14 = .ok (.getfield 11, 3) := by decide +kernel
theorem dX1_read_17 : decode cX1_read 17 = .ok (.arraylength, 1) := by decide +kernel
theorem dX1_read_18 : decode cX1_read 18 = .ok (.if_icmp .lt 7, 3) := by decide +kernel
theorem dX1_read_21 : decode cX1_read 21 = .ok (.iconst 0, 1) := by decide +kernel
theorem dX1_read_22 : decode cX1_read 22 = .ok (.goto 9, 3) := by decide +kernel
theorem dX1_read_25 : decode cX1_read 25 = .ok (.aload_n 0, 1) := by decide +kernel
theorem dX1_read_26 : decode cX1_read 26 = .ok (.getfield 11, 3) := by decide +kernel
theorem dX1_read_29 : decode cX1_read 29 = .ok (.iload_n 3, 1) := by decide +kernel
theorem dX1_read_30 : decode cX1_read 30 = .ok (.iaload, 1) := by decide +kernel
theorem dX1_read_31 : decode cX1_read 31 = .ok (.ireturn, 1) := by decide +kernel
theorem dX1_write_0 : decode cX1_write 0 = .ok (.iload_n 1, 1) := by decide +kernel
theorem dX1_write_1 : decode cX1_write 1 = .ok (.ifCond .lt 19, 3) := by decide +kernel
theorem dX1_write_4 : decode cX1_write 4 = .ok (.iload_n 1, 1) := by decide +kernel
theorem dX1_write_5 : decode cX1_write 5 = .ok (.aload_n 0, 1) := by decide +kernel
theorem dX1_write_6 : decode cX1_write 6 = .ok (.getfield 11, 3) := by decide +kernel
theorem dX1_write_9 : decode cX1_write 9 = .ok (.arraylength, 1) := by decide +kernel
theorem dX1_write_10 : decode cX1_write 10 = .ok (.if_icmp .ge 10, 3) := by decide +kernel
theorem dX1_write_13 : decode cX1_write 13 = .ok (.aload_n 0, 1) := by decide +kernel
theorem dX1_write_14 : decode cX1_write 14 = .ok (.getfield 11, 3) := by decide +kernel
theorem dX1_write_17 : decode cX1_write 17 = .ok (.iload_n 1, 1) := by decide +kernel
theorem dX1_write_18 : decode cX1_write 18 = .ok (.iload_n 2, 1) := by decide +kernel
theorem dX1_write_19 : decode cX1_write 19 = .ok (.iastore, 1) := by decide +kernel
theorem dX1_write_20 : decode cX1_write 20 = .ok (.return_, 1) := by decide +kernel
theorem dX1_rowOf_0 : decode cX1_rowOf 0 = .ok (.aload_n 0, 1) := by decide +kernel
theorem dX1_rowOf_1 : decode cX1_rowOf 1 = .ok (.getfield 19, 3) := by decide +kernel
theorem dX1_rowOf_4 : decode cX1_rowOf 4 = .ok (.iload_n 1, 1) := by decide +kernel
theorem dX1_rowOf_5 : decode cX1_rowOf 5 = .ok (.iadd, 1) := by decide +kernel
theorem dX1_rowOf_6 : decode cX1_rowOf 6 = .ok (.bipush 16, 2) := by decide +kernel
theorem dX1_rowOf_8 : decode cX1_rowOf 8 = .ok (.irem, 1) := by decide +kernel
theorem dX1_rowOf_9 : decode cX1_rowOf 9 = .ok (.iconst 3, 1) := by decide +kernel
theorem dX1_rowOf_10 : decode cX1_rowOf 10 = .ok (.imul, 1) := by decide +kernel
theorem dX1_rowOf_11 : decode cX1_rowOf 11 = .ok (.ireturn, 1) := by decide +kernel
theorem dX2_init_0 : decode cX2_init 0 = .ok (.aload_n 0, 1) := by decide +kernel
theorem dX2_init_1 : decode cX2_init 1 = .ok (.invokespecial 3, 3) := by decide +kernel
theorem dX2_init_4 : decode cX2_init 4 = .ok (.aload_n 0, 1) := by decide +kernel
theorem dX2_init_5 : decode cX2_init 5 = .ok (.bipush 80, 2) := by decide +kernel
theorem dX2_init_7 : decode cX2_init 7 = .ok (.newarray .char, 2) := by decide +kernel
theorem dX2_init_9 : decode cX2_init 9 = .ok (.putfield 9, 3) := by decide +kernel
theorem dX2_init_12 : decode cX2_init 12 = .ok (.return_, 1) := by decide +kernel
theorem dX2_append_0 : decode cX2_append 0 = .ok (.aload_n 0, 1) := by decide +kernel
theorem dX2_append_1 : decode cX2_append 1 = .ok (.getfield 15, 3) := by decide +kernel
theorem dX2_append_4 : decode cX2_append 4 = .ok (.ifCond .lt 35, 3) := by decide +kernel
theorem dX2_append_7 : decode cX2_append 7 = .ok (.aload_n 0, 1) := by decide +kernel
theorem dX2_append_8 : decode cX2_append 8 = .ok (.getfield 15, 3) := by decide +kernel
theorem dX2_append_11 : decode cX2_append 11 = .ok (.aload_n 0, 1) := by decide +kernel
theorem dX2_append_12 : decode cX2_append 12 = .ok (.getfield 9, 3) := by decide +kernel
theorem dX2_append_15 : decode cX2_append 15 = .ok (.arraylength, 1) := by decide +kernel
theorem dX2_append_16 : decode cX2_append 16 = .ok (.if_icmp .ge 23, 3) := by decide +kernel
theorem dX2_append_19 : decode cX2_append 19 = .ok (.aload_n 0, 1) := by decide +kernel
theorem dX2_append_20 : decode cX2_append 20 = .ok (.getfield 9, 3) := by decide +kernel
theorem dX2_append_23 : decode cX2_append 23 = .ok (.aload_n 0, 1) := by decide +kernel
theorem dX2_append_24 : decode cX2_append 24 = .ok (.getfield 15, 3) := by decide +kernel
theorem dX2_append_27 : decode cX2_append 27 = .ok (.iload_n 1, 1) := by decide +kernel
theorem dX2_append_28 : decode cX2_append 28 = .ok (.castore, 1) := by decide +kernel
theorem dX2_append_29 : decode cX2_append 29 = .ok (.aload_n 0, 1) := by decide +kernel
theorem dX2_append_30 : decode cX2_append 30 = .ok (.dup, 1) := by decide +kernel
theorem dX2_append_31 : decode cX2_append 31 = .ok (.getfield 15, 3) := by decide +kernel
theorem dX2_append_34 : decode cX2_append 34 = .ok (.iconst 1, 1) := by decide +kernel
theorem dX2_append_35 : decode cX2_append 35 = .ok (.iadd, 1) := by decide +kernel
theorem dX2_append_36 : decode cX2_append 36 = .ok (.putfield 15, 3) := by decide +kernel
theorem dX2_append_39 : decode cX2_append 39 = .ok (.return_, 1) := by decide +kernel
theorem dX2_sign_0 : decode cX2_sign 0 = .ok (.iload_n 1, 1) := by decide +kernel
theorem dX2_sign_1 : decode cX2_sign 1 = .ok (.ifCond .lt 20, 3) := by decide +kernel
theorem dX2_sign_4 : decode cX2_sign 4 = .ok (.iload_n 1, 1) := by decide +kernel
theorem dX2_sign_5 : decode cX2_sign 5 = .ok (.aload_n 0, 1) := by decide +kernel
theorem dX2_sign_6 : decode cX2_sign 6 = .ok (.getfield 15, 3) := by decide +kernel
theorem dX2_sign_9 : decode cX2_sign 9 = .ok (.if_icmp .ge 12, 3) := by decide +kernel
theorem dX2_sign_12 : decode cX2_sign 12 = .ok (.iload_n 1, 1) := by decide +kernel
theorem dX2_sign_13 : decode cX2_sign 13 = .ok (.aload_n 0, 1) := by decide +kernel
theorem dX2_sign_14 : decode cX2_sign 14 = .ok (.getfield 9, 3) := by decide +kernel
theorem dX2_sign_17 : decode cX2_sign 17 = .ok (.arraylength, 1) := by decide +kernel
theorem dX2_sign_18 : decode cX2_sign 18 = .ok (.if_icmp .lt 7, 3) := by decide +kernel
theorem dX2_sign_21 : decode cX2_sign 21 = .ok (.iconst 0, 1) := by decide +kernel
theorem dX2_sign_22 : decode cX2_sign 22 = .ok (.goto 9, 3) := by decide +kernel
theorem dX2_sign_25 : decode cX2_sign 25 = .ok (.aload_n 0, 1) := by decide +kernel
theorem dX2_sign_26 : decode cX2_sign 26 = .ok (.getfield 9, 3) := by decide +kernel
theorem dX2_sign_29 : decode cX2_sign 29 = .ok (.iload_n 1, 1) := by decide +kernel
theorem dX2_sign_30 : decode cX2_sign 30 = .ok (.caload, 1) := by decide +kernel
theorem dX2_sign_31 : decode cX2_sign 31 = .ok (.ireturn, 1) := by decide +kernel
theorem dX2_digit_0 : decode cX2_digit 0 = .ok (.aload_n 0, 1) := by decide +kernel
theorem dX2_digit_1 : decode cX2_digit 1 = .ok (.iload_n 1, 1) := by decide +kernel
theorem dX2_digit_2 : decode cX2_digit 2 = .ok (.invokevirtual 19, 3) := by decide +kernel
theorem dX2_digit_5 : decode cX2_digit 5 = .ok (.bipush 48, 2) := by decide +kernel
theorem dX2_digit_7 : decode cX2_digit 7 = .ok (.isub, 1) := by decide +kernel
theorem dX2_digit_8 : decode cX2_digit 8 = .ok (.ireturn, 1) := by decide +kernel
theorem dX2_number_0 : decode cX2_number 0 = .ok (.aload_n 0, 1) := by decide +kernel
theorem dX2_number_1 : decode cX2_number 1 = .ok (.iload_n 1, 1) := by decide +kernel
theorem dX2_number_2 : decode cX2_number 2 = .ok (.invokevirtual 23, 3) := by decide +kernel
theorem dX2_number_5 : decode cX2_number 5 = .ok (.istore_n 2, 1) := by decide +kernel
theorem dX2_number_6 : decode cX2_number 6 = .ok (.aload_n 0, 1) := by decide +kernel
theorem dX2_number_7 : decode cX2_number 7 = .ok (.iload_n 1, 1) := by decide +kernel
theorem dX2_number_8 : decode cX2_number 8 = .ok (.iconst 1, 1) := by decide +kernel
theorem dX2_number_9 : decode cX2_number 9 = .ok (.iadd, 1) := by decide +kernel
theorem dX2_number_10 : decode cX2_number 10 = .ok (.invokevirtual 19, 3) := by decide +kernel
theorem dX2_number_13 : decode cX2_number 13 = .ok (.istore_n 3, 1) := by decide +kernel
theorem dX2_number_14 : decode cX2_number 14 = .ok (.bipush 48, 2) := by decide +kernel
theorem dX2_number_16 : decode cX2_number 16 = .ok (.iload_n 3, 1) := by decide +kernel
theorem dX2_number_17 : decode cX2_number 17 = .ok (.bipush 57, 2) := by decide +kernel
theorem dX2_number_19 : decode cX2_number 19 = .ok (.invokestatic 27, 3) := by decide +kernel
theorem dX2_number_22 : decode cX2_number 22 = .ok (.ifCond .eq 15, 3) := by decide +kernel
theorem dX2_number_25 : decode cX2_number 25 = .ok (.bipush 10, 2) := by decide +kernel
theorem dX2_number_27 : decode cX2_number 27 = .ok (.iload_n 2, 1) := by decide +kernel
theorem dX2_number_28 : decode cX2_number 28 = .ok (.imul, 1) := by decide +kernel
theorem dX2_number_29 : decode cX2_number 29 = .ok (.iload_n 3, 1) := by decide +kernel
theorem dX2_number_30 : decode cX2_number 30 = .ok (.bipush 48, 2) := by decide +kernel
theorem dX2_number_32 : decode cX2_number 32 = .ok (.isub, 1) := by decide +kernel
theorem dX2_number_33 : decode cX2_number 33 = .ok (.iadd, 1) := by decide +kernel
theorem dX2_number_34 : decode cX2_number 34 = .ok (.goto 4, 3) := by decide +kernel
theorem dX2_number_37 : decode cX2_number 37 = .ok (.iload_n 2, 1) := by decide +kernel
theorem dX2_number_38 : decode cX2_number 38 = .ok (.ireturn, 1) := by decide +kernel
theorem dX2_orders_0 : decode cX2_orders 0 = .ok (.iconst 1, 1) := by decide +kernel
theorem dX2_orders_1 : decode cX2_orders 1 = .ok (.istore_n 1, 1) := by decide +kernel
theorem dX2_orders_2 : decode cX2_orders 2 = .ok (.iconst 0, 1) := by decide +kernel
theorem dX2_orders_3 : decode cX2_orders 3 = .ok (.istore_n 2, 1) := by decide +kernel
theorem dX2_orders_4 : decode cX2_orders 4 = .ok (.iload_n 2, 1) := by decide +kernel
theorem dX2_orders_5 : decode cX2_orders 5 = .ok (.aload_n 0, 1) := by decide +kernel
theorem dX2_orders_6 : decode cX2_orders 6 = .ok (.getfield 15, 3) := by decide +kernel
theorem dX2_orders_9 : decode cX2_orders 9 = .ok (.if_icmp .ge 22, 3) := by decide +kernel
theorem dX2_orders_12 : decode cX2_orders 12 = .ok (.aload_n 0, 1) := by decide +kernel
theorem dX2_orders_13 : decode cX2_orders 13 = .ok (.iload_n 2, 1) := by decide +kernel
theorem dX2_orders_14 : decode cX2_orders 14 = .ok (.invokevirtual 19, 3) := by decide +kernel
theorem dX2_orders_17 : decode cX2_orders 17 = .ok (.bipush 59, 2) := by decide +kernel
theorem dX2_orders_19 : decode cX2_orders 19 = .ok (.if_icmp .ne 6, 3) := by decide +kernel
theorem dX2_orders_22 : decode cX2_orders 22 = .ok (.iinc 1 1, 3) := by decide +kernel
theorem dX2_orders_25 : decode cX2_orders 25 = .ok (.iinc 2 1, 3) := by decide +kernel
theorem dX2_orders_28 : decode cX2_orders 28 = .ok (.goto (-24), 3) := by decide +kernel
theorem dX2_orders_31 : decode cX2_orders 31 = .ok (.iload_n 1, 1) := by decide +kernel
theorem dX2_orders_32 : decode cX2_orders 32 = .ok (.ireturn, 1) := by decide +kernel
theorem dX2_endOfOrder_0 : decode cX2_endOfOrder 0 = .ok (.iload_n 1, 1) := by decide +kernel
theorem dX2_endOfOrder_1 : decode cX2_endOfOrder 1 = .ok (.istore_n 2, 1) := by decide +kernel
theorem dX2_endOfOrder_2 : decode cX2_endOfOrder 2 = .ok (.iload_n 2, 1) := by decide +kernel
theorem dX2_endOfOrder_3 : decode cX2_endOfOrder 3 = .ok (.aload_n 0, 1) := by decide +kernel
theorem dX2_endOfOrder_4 : decode cX2_endOfOrder 4 = .ok (.getfield 15, 3) := by decide +kernel
theorem dX2_endOfOrder_7 : decode cX2_endOfOrder 7 = .ok (.if_icmp .ge 21, 3) := by decide +kernel
theorem dX2_endOfOrder_10 : decode cX2_endOfOrder 10 = .ok (.aload_n 0, 1) := by decide +kernel
theorem dX2_endOfOrder_11 : decode cX2_endOfOrder 11 = .ok (.iload_n 2, 1) := by decide +kernel
theorem dX2_endOfOrder_12 : decode cX2_endOfOrder 12 = .ok (.invokevirtual 19, 3) := by decide +kernel
theorem dX2_endOfOrder_15 : decode cX2_endOfOrder 15 = .ok (.bipush 59, 2) := by decide +kernel
theorem dX2_endOfOrder_17 : decode cX2_endOfOrder 17 = .ok (.if_icmp .ne 5, 3) := by decide +kernel
theorem dX2_endOfOrder_20 : decode cX2_endOfOrder 20 = .ok (.iload_n 2, 1) := by decide +kernel
theorem dX2_endOfOrder_21 : decode cX2_endOfOrder 21 = .ok (.ireturn, 1) := by decide +kernel
theorem dX2_endOfOrder_22 : decode cX2_endOfOrder 22 = .ok (.iinc 2 1, 3) := by decide +kernel
theorem dX2_endOfOrder_25 : decode cX2_endOfOrder 25 = .ok (.goto (-23), 3) := by decide +kernel
theorem dX2_endOfOrder_28 : decode cX2_endOfOrder 28 = .ok (.aload_n 0, 1) := by decide +kernel
theorem dX2_endOfOrder_29 : decode cX2_endOfOrder 29 = .ok (.getfield 15, 3) := by decide +kernel
theorem dX2_endOfOrder_32 : decode cX2_endOfOrder 32 = .ok (.ireturn, 1) := by decide +kernel
theorem dX2_firstError_0 : decode cX2_firstError 0 = .ok (.iconst 0, 1) := by decide +kernel
theorem dX2_firstError_1 : decode cX2_firstError 1 = .ok (.istore_n 1, 1) := by decide +kernel
theorem dX2_firstError_2 : decode cX2_firstError 2 = .ok (.iconst 0, 1) := by decide +kernel
theorem dX2_firstError_3 : decode cX2_firstError 3 = .ok (.istore_n 2, 1) := by decide +kernel
theorem dX2_firstError_4 : decode cX2_firstError 4 = .ok (.iload_n 2, 1) := by decide +kernel
theorem dX2_firstError_5 : decode cX2_firstError 5 = .ok (.aload_n 0, 1) := by decide +kernel
theorem dX2_firstError_6 : decode cX2_firstError 6 = .ok (.getfield 15, 3) := by decide +kernel
theorem dX2_firstError_9 : decode cX2_firstError 9 = .ok (.if_icmp .ge 26, 3) := by decide +kernel
theorem dX2_firstError_12 : decode cX2_firstError 12 = .ok (.iload_n 1, 1) := by decide +kernel
theorem dX2_firstError_13 : decode cX2_firstError 13 = .ok (.aload_n 0, 1) := by decide +kernel
theorem dX2_firstError_14 : decode cX2_firstError 14 = .ok (.iload_n 2, 1) := by decide +kernel
theorem dX2_firstError_15 : decode cX2_firstError 15 = .ok (.invokevirtual 19, 3) := by decide +kernel
theorem dX2_firstError_18 : decode cX2_firstError 18 = .ok (.invokestatic 31, 3) := by decide +kernel
theorem dX2_firstError_21 : decode cX2_firstError 21 = .ok (.istore_n 1, 1) := by decide +kernel
theorem dX2_firstError_22 : decode cX2_firstError 22 = .ok (.iload_n 1, 1) := by decide +kernel
theorem dX2_firstError_23 : decode cX2_firstError 23 = .ok (.iconst (-1), 1) := by decide +kernel
theorem dX2_firstError_24 : decode cX2_firstError 24 = .ok (.if_icmp .ne 5, 3) := by decide +kernel
theorem dX2_firstError_27 : decode cX2_firstError 27 = .ok (.iload_n 2, 1) := by decide +kernel
theorem dX2_firstError_28 : decode cX2_firstError 28 = .ok (.ireturn, 1) := by decide +kernel
theorem dX2_firstError_29 : decode cX2_firstError 29 = .ok (.iinc 2 1, 3) := by decide +kernel
theorem dX2_firstError_32 : decode cX2_firstError 32 = .ok (.goto (-28), 3) := by decide +kernel
theorem dX2_firstError_35 : decode cX2_firstError 35 = .ok (.iload_n 1, 1) := by decide +kernel
theorem dX2_firstError_36 : decode cX2_firstError 36 = .ok (.invokestatic 35, 3) := by decide +kernel
theorem dX2_firstError_39 : decode cX2_firstError 39 = .ok (.ifCond .eq 7, 3) := by decide +kernel
theorem dX2_firstError_42 : decode cX2_firstError 42 = .ok (.iconst (-1), 1) := by decide +kernel
theorem dX2_firstError_43 : decode cX2_firstError 43 = .ok (.goto 7, 3) := by decide +kernel
theorem dX2_firstError_46 : decode cX2_firstError 46 = .ok (.aload_n 0, 1) := by decide +kernel
theorem dX2_firstError_47 : decode cX2_firstError 47 = .ok (.getfield 15, 3) := by decide +kernel
theorem dX2_firstError_50 : decode cX2_firstError 50 = .ok (.ireturn, 1) := by decide +kernel
theorem dX2_mayEnd_0 : decode cX2_mayEnd 0 = .ok (.iload_n 0, 1) := by decide +kernel
theorem dX2_mayEnd_1 : decode cX2_mayEnd 1 = .ok (.iconst 3, 1) := by decide +kernel
theorem dX2_mayEnd_2 : decode cX2_mayEnd 2 = .ok (.if_icmp .eq 14, 3) := by decide +kernel
theorem dX2_mayEnd_5 : decode cX2_mayEnd 5 = .ok (.iload_n 0, 1) := by decide +kernel
theorem dX2_mayEnd_6 : decode cX2_mayEnd 6 = .ok (.iconst 5, 1) := by decide +kernel
theorem dX2_mayEnd_7 : decode cX2_mayEnd 7 = .ok (.if_icmp .eq 9, 3) := by decide +kernel
theorem dX2_mayEnd_10 : decode cX2_mayEnd 10 = .ok (.iload_n 0, 1) := by decide +kernel
theorem dX2_mayEnd_11 : decode cX2_mayEnd 11 = .ok (.bipush 6, 2) := by decide +kernel
theorem dX2_mayEnd_13 : decode cX2_mayEnd 13 = .ok (.if_icmp .ne 7, 3) := by decide +kernel
theorem dX2_mayEnd_16 : decode cX2_mayEnd 16 = .ok (.iconst 1, 1) := by decide +kernel
theorem dX2_mayEnd_17 : decode cX2_mayEnd 17 = .ok (.goto 4, 3) := by decide +kernel
theorem dX2_mayEnd_20 : decode cX2_mayEnd 20 = .ok (.iconst 0, 1) := by decide +kernel
theorem dX2_mayEnd_21 : decode cX2_mayEnd 21 = .ok (.ireturn, 1) := by decide +kernel
theorem dX2_placeAfter_0 : decode cX2_placeAfter 0 = .ok (.iload_n 1, 1) := by decide +kernel
theorem dX2_placeAfter_1 : decode cX2_placeAfter 1 = .ok (.bipush 59, 2) := by decide +kernel
theorem dX2_placeAfter_3 : decode cX2_placeAfter 3 = .ok (.if_icmp .ne 16, 3) := by decide +kernel
theorem dX2_placeAfter_6 : decode cX2_placeAfter 6 = .ok (.iload_n 0, 1) := by decide +kernel
theorem dX2_placeAfter_7 : decode cX2_placeAfter 7 = .ok (.invokestatic 35, 3) := by decide +kernel
theorem dX2_placeAfter_10 : decode cX2_placeAfter 10 = .ok (.ifCond .eq 7, 3) := by decide +kernel
theorem dX2_placeAfter_13 : decode cX2_placeAfter 13 = .ok (.iconst 0, 1) := by decide +kernel
theorem dX2_placeAfter_14 : decode cX2_placeAfter 14 = .ok (.goto 4, 3) := by decide +kernel
theorem dX2_placeAfter_17 : decode cX2_placeAfter 17 = .ok (.iconst (-1), 1) := by decide +kernel
theorem dX2_placeAfter_18 : decode cX2_placeAfter 18 = .ok (.ireturn, 1) := by decide +kernel
theorem dX2_placeAfter_19 : decode cX2_placeAfter 19 = .ok (.iload_n 0, 1) := by decide +kernel
theorem dX2_placeAfter_20 : decode cX2_placeAfter 20 = .ok (.tableswitch 123 0 5 #[40, 57, 62, 62, 79, 105], 40) := by decide +kernel
theorem dX2_placeAfter_60 : decode cX2_placeAfter 60 = .ok (.bipush 48, 2) := by decide +kernel
theorem dX2_placeAfter_62 : decode cX2_placeAfter 62 = .ok (.iload_n 1, 1) := by decide +kernel
theorem dX2_placeAfter_63 : decode cX2_placeAfter 63 = .ok (.bipush 51, 2) := by decide +kernel
theorem dX2_placeAfter_65 : decode cX2_placeAfter 65 = .ok (.invokestatic 27, 3) := by decide +kernel
theorem dX2_placeAfter_68 : decode cX2_placeAfter 68 = .ok (.ifCond .eq 7, 3) := by decide +kernel
theorem dX2_placeAfter_71 : decode cX2_placeAfter 71 = .ok (.iconst 1, 1) := by decide +kernel
theorem dX2_placeAfter_72 : decode cX2_placeAfter 72 = .ok (.goto 4, 3) := by decide +kernel
theorem dX2_placeAfter_75 : decode cX2_placeAfter 75 = .ok (.iconst (-1), 1) := by decide +kernel
theorem dX2_placeAfter_76 : decode cX2_placeAfter 76 = .ok (.ireturn, 1) := by decide +kernel
theorem dX2_placeAfter_77 : decode cX2_placeAfter 77 = .ok (.iload_n 1, 1) := by decide +kernel
theorem dX2_placeAfter_78 : decode cX2_placeAfter 78 = .ok (.invokestatic 39, 3) := by decide +kernel
theorem dX2_placeAfter_81 : decode cX2_placeAfter 81 = .ok (.ireturn, 1) := by decide +kernel
theorem dX2_placeAfter_82 : decode cX2_placeAfter 82 = .ok (.bipush 48, 2) := by decide +kernel
theorem dX2_placeAfter_84 : decode cX2_placeAfter 84 = .ok (.iload_n 1, 1) := by decide +kernel
theorem dX2_placeAfter_85 : decode cX2_placeAfter 85 = .ok (.bipush 51, 2) := by decide +kernel
theorem dX2_placeAfter_87 : decode cX2_placeAfter 87 = .ok (.invokestatic 27, 3) := by decide +kernel
theorem dX2_placeAfter_90 : decode cX2_placeAfter 90 = .ok (.ifCond .eq 7, 3) := by decide +kernel
theorem dX2_placeAfter_93 : decode cX2_placeAfter 93 = .ok (.iconst 3, 1) := by decide +kernel
theorem dX2_placeAfter_94 : decode cX2_placeAfter 94 = .ok (.goto 4, 3) := by decide +kernel
theorem dX2_placeAfter_97 : decode cX2_placeAfter 97 = .ok (.iconst (-1), 1) := by decide +kernel
theorem dX2_placeAfter_98 : decode cX2_placeAfter 98 = .ok (.ireturn, 1) := by decide +kernel
theorem dX2_placeAfter_99 : decode cX2_placeAfter 99 = .ok (.iload_n 1, 1) := by decide +kernel
theorem dX2_placeAfter_100 : decode cX2_placeAfter 100 = .ok (.bipush 49, 2) := by decide +kernel
theorem dX2_placeAfter_102 : decode cX2_placeAfter 102 = .ok (.if_icmp .ne 5, 3) := by decide +kernel
theorem dX2_placeAfter_105 : decode cX2_placeAfter 105 = .ok (.iconst 5, 1) := by decide +kernel
theorem dX2_placeAfter_106 : decode cX2_placeAfter 106 = .ok (.ireturn, 1) := by decide +kernel
theorem dX2_placeAfter_107 : decode cX2_placeAfter 107 = .ok (.bipush 50, 2) := by decide +kernel
theorem dX2_placeAfter_109 : decode cX2_placeAfter 109 = .ok (.iload_n 1, 1) := by decide +kernel
theorem dX2_placeAfter_110 : decode cX2_placeAfter 110 = .ok (.bipush 57, 2) := by decide +kernel
theorem dX2_placeAfter_112 : decode cX2_placeAfter 112 = .ok (.invokestatic 27, 3) := by decide +kernel
theorem dX2_placeAfter_115 : decode cX2_placeAfter 115 = .ok (.ifCond .eq 8, 3) := by decide +kernel
theorem dX2_placeAfter_118 : decode cX2_placeAfter 118 = .ok (.bipush 6, 2) := by decide +kernel
theorem dX2_placeAfter_120 : decode cX2_placeAfter 120 = .ok (.goto 4, 3) := by decide +kernel
theorem dX2_placeAfter_123 : decode cX2_placeAfter 123 = .ok (.iconst (-1), 1) := by decide +kernel
theorem dX2_placeAfter_124 : decode cX2_placeAfter 124 = .ok (.ireturn, 1) := by decide +kernel
theorem dX2_placeAfter_125 : decode cX2_placeAfter 125 = .ok (.bipush 48, 2) := by decide +kernel
theorem dX2_placeAfter_127 : decode cX2_placeAfter 127 = .ok (.iload_n 1, 1) := by decide +kernel
theorem dX2_placeAfter_128 : decode cX2_placeAfter 128 = .ok (.bipush 54, 2) := by decide +kernel
theorem dX2_placeAfter_130 : decode cX2_placeAfter 130 = .ok (.invokestatic 27, 3) := by decide +kernel
theorem dX2_placeAfter_133 : decode cX2_placeAfter 133 = .ok (.ifCond .eq 8, 3) := by decide +kernel
theorem dX2_placeAfter_136 : decode cX2_placeAfter 136 = .ok (.bipush 6, 2) := by decide +kernel
theorem dX2_placeAfter_138 : decode cX2_placeAfter 138 = .ok (.goto 4, 3) := by decide +kernel
theorem dX2_placeAfter_141 : decode cX2_placeAfter 141 = .ok (.iconst (-1), 1) := by decide +kernel
theorem dX2_placeAfter_142 : decode cX2_placeAfter 142 = .ok (.ireturn, 1) := by decide +kernel
theorem dX2_placeAfter_143 : decode cX2_placeAfter 143 = .ok (.iconst (-1), 1) := by decide +kernel
theorem dX2_placeAfter_144 : decode cX2_placeAfter 144 = .ok (.ireturn, 1) := by decide +kernel
theorem dX2_placeAfterSnail_0 : decode cX2_placeAfterSnail 0 = .ok (.iload_n 0, 1) := by decide +kernel
theorem dX2_placeAfterSnail_1 : decode cX2_placeAfterSnail 1 = .ok (.bipush 58, 2) := by decide +kernel
theorem dX2_placeAfterSnail_3 : decode cX2_placeAfterSnail 3 = .ok (.if_icmp .ne 5, 3) := by decide +kernel
theorem dX2_placeAfterSnail_6 : decode cX2_placeAfterSnail 6 = .ok (.iconst 2, 1) := by decide +kernel
theorem dX2_placeAfterSnail_7 : decode cX2_placeAfterSnail 7 = .ok (.ireturn, 1) := by decide +kernel
theorem dX2_placeAfterSnail_8 : decode cX2_placeAfterSnail 8 = .ok (.iload_n 0, 1) := by decide +kernel
theorem dX2_placeAfterSnail_9 : decode cX2_placeAfterSnail 9 = .ok (.bipush 98, 2) := by decide +kernel
theorem dX2_placeAfterSnail_11 : decode cX2_placeAfterSnail 11 = .ok (.if_icmp .ne 5, 3) := by decide +kernel
theorem dX2_placeAfterSnail_14 : decode cX2_placeAfterSnail 14 = .ok (.iconst 4, 1) := by decide +kernel
theorem dX2_placeAfterSnail_15 : decode cX2_placeAfterSnail 15 = .ok (.ireturn, 1) := by decide +kernel
theorem dX2_placeAfterSnail_16 : decode cX2_placeAfterSnail 16 = .ok (.iload_n 0, 1) := by decide +kernel
theorem dX2_placeAfterSnail_17 : decode cX2_placeAfterSnail 17 = .ok (.bipush 109, 2) := by decide +kernel
theorem dX2_placeAfterSnail_19 : decode cX2_placeAfterSnail 19 = .ok (.if_icmp .ne 8, 3) := by decide +kernel
theorem dX2_placeAfterSnail_22 : decode cX2_placeAfterSnail 22 = .ok (.bipush 6, 2) := by decide +kernel
theorem dX2_placeAfterSnail_24 : decode cX2_placeAfterSnail 24 = .ok (.goto 4, 3) := by decide +kernel
theorem dX2_placeAfterSnail_27 : decode cX2_placeAfterSnail 27 = .ok (.iconst (-1), 1) := by decide +kernel
theorem dX2_placeAfterSnail_28 : decode cX2_placeAfterSnail 28 = .ok (.ireturn, 1) := by decide +kernel
theorem dX2_isBetween_0 : decode cX2_isBetween 0 = .ok (.iload_n 1, 1) := by decide +kernel
theorem dX2_isBetween_1 : decode cX2_isBetween 1 = .ok (.iload_n 0, 1) := by decide +kernel
theorem dX2_isBetween_2 : decode cX2_isBetween 2 = .ok (.if_icmp .lt 12, 3) := by decide +kernel
theorem dX2_isBetween_5 : decode cX2_isBetween 5 = .ok (.iload_n 1, 1) := by decide +kernel
theorem dX2_isBetween_6 : decode cX2_isBetween 6 = .ok (.iload_n 2, 1) := by decide +kernel
theorem dX2_isBetween_7 : decode cX2_isBetween 7 = .ok (.if_icmp .gt 7, 3) := by decide +kernel
theorem dX2_isBetween_10 : decode cX2_isBetween 10 = .ok (.iconst 1, 1) := by decide +kernel
theorem dX2_isBetween_11 : decode cX2_isBetween 11 = .ok (.goto 4, 3) := by decide +kernel
theorem dX2_isBetween_14 : decode cX2_isBetween 14 = .ok (.iconst 0, 1) := by decide +kernel
theorem dX2_isBetween_15 : decode cX2_isBetween 15 = .ok (.ireturn, 1) := by decide +kernel
theorem dX3_init_0 : decode cX3_init 0 = .ok (.aload_n 0, 1) := by decide +kernel
theorem dX3_init_1 : decode cX3_init 1 = .ok (.invokespecial 3, 3) := by decide +kernel
theorem dX3_init_4 : decode cX3_init 4 = .ok (.aload_n 0, 1) := by decide +kernel
theorem dX3_init_5 : decode cX3_init 5 = .ok (.new 9, 3) := by decide +kernel
theorem dX3_init_8 : decode cX3_init 8 = .ok (.dup, 1) := by decide +kernel
theorem dX3_init_9 : decode cX3_init 9 = .ok (.invokespecial 11, 3) := by decide +kernel
theorem dX3_init_12 : decode cX3_init 12 = .ok (.putfield 12, 3) := by decide +kernel
theorem dX3_init_15 : decode cX3_init 15 = .ok (.aload_n 0, 1) := by decide +kernel
theorem dX3_init_16 : decode cX3_init 16 = .ok (.new 9, 3) := by decide +kernel
theorem dX3_init_19 : decode cX3_init 19 = .ok (.dup, 1) := by decide +kernel
theorem dX3_init_20 : decode cX3_init 20 = .ok (.invokespecial 11, 3) := by decide +kernel
theorem dX3_init_23 : decode cX3_init 23 = .ok (.putfield 18, 3) := by decide +kernel
theorem dX3_init_26 : decode cX3_init 26 = .ok (.aload_n 0, 1) := by decide +kernel
theorem dX3_init_27 : decode cX3_init 27 = .ok (.new 9, 3) := by decide +kernel
theorem dX3_init_30 : decode cX3_init 30 = .ok (.dup, 1) := by decide +kernel
theorem dX3_init_31 : decode cX3_init 31 = .ok (.invokespecial 11, 3) := by decide +kernel
theorem dX3_init_34 : decode cX3_init 34 = .ok (.putfield 21, 3) := by decide +kernel
theorem dX3_init_37 : decode cX3_init 37 = .ok (.aload_n 0, 1) := by decide +kernel
theorem dX3_init_38 : decode cX3_init 38 = .ok (.new 9, 3) := by decide +kernel
theorem dX3_init_41 : decode cX3_init 41 = .ok (.dup, 1) := by decide +kernel
theorem dX3_init_42 : decode cX3_init 42 = .ok (.invokespecial 11, 3) := by decide +kernel
theorem dX3_init_45 : decode cX3_init 45 = .ok (.putfield 24, 3) := by decide +kernel
theorem dX3_init_48 : decode cX3_init 48 = .ok (.return_, 1) := by decide +kernel
theorem dX3_keep_0 : decode cX3_keep 0 = .ok (.aload_n 0, 1) := by decide +kernel
theorem dX3_keep_1 : decode cX3_keep 1 = .ok (.getfield 27, 3) := by decide +kernel
theorem dX3_keep_4 : decode cX3_keep 4 = .ok (.iconst 4, 1) := by decide +kernel
theorem dX3_keep_5 : decode cX3_keep 5 = .ok (.if_icmp .ge 16, 3) := by decide +kernel
theorem dX3_keep_8 : decode cX3_keep 8 = .ok (.aload_n 0, 1) := by decide +kernel
theorem dX3_keep_9 : decode cX3_keep 9 = .ok (.dup, 1) := by decide +kernel
theorem dX3_keep_10 : decode cX3_keep 10 = .ok (.getfield 27, 3) := by decide +kernel
theorem dX3_keep_13 : decode cX3_keep 13 = .ok (.iconst 1, 1) := by decide +kernel
theorem dX3_keep_14 : decode cX3_keep 14 = .ok (.iadd, 1) := by decide +kernel
theorem dX3_keep_15 : decode cX3_keep 15 = .ok (.putfield 27, 3) := by decide +kernel
theorem dX3_keep_18 : decode cX3_keep 18 = .ok (.goto 15, 3) := by decide +kernel
theorem dX3_keep_21 : decode cX3_keep 21 = .ok (.aload_n 0, 1) := by decide +kernel
theorem dX3_keep_22 : decode cX3_keep 22 = .ok (.aload_n 0, 1) := by decide +kernel
theorem dX3_keep_23 : decode cX3_keep 23 = .ok (.getfield 31, 3) := by decide +kernel
theorem dX3_keep_26 : decode cX3_keep 26 = .ok (.iconst 1, 1) := by decide +kernel
theorem dX3_keep_27 : decode cX3_keep 27 = .ok (.iadd, 1) := by decide +kernel
theorem dX3_keep_28 : decode cX3_keep 28 = .ok (.iconst 4, 1) := by decide +kernel
theorem dX3_keep_29 : decode cX3_keep 29 = .ok (.irem, 1) := by decide +kernel
theorem dX3_keep_30 : decode cX3_keep 30 = .ok (.putfield 31, 3) := by decide +kernel
theorem dX3_keep_33 : decode cX3_keep 33 = .ok (.aload_n 0, 1) := by decide +kernel
theorem dX3_keep_34 : decode cX3_keep 34 = .ok (.invokevirtual 34, 3) := by decide +kernel
theorem dX3_keep_37 : decode cX3_keep 37 = .ok (.aload_n 1, 1) := by decide +kernel
theorem dX3_keep_38 : decode cX3_keep 38 = .ok (.invokevirtual 38, 3) := by decide +kernel
theorem dX3_keep_41 : decode cX3_keep 41 = .ok (.return_, 1) := by decide +kernel
theorem dX3_giveBackLatest_0 : decode cX3_giveBackLatest 0 = .ok (.aload_n 0, 1) := by decide +kernel
theorem dX3_giveBackLatest_1 : decode cX3_giveBackLatest 1 = .ok (.getfield 27, 3) := by decide +kernel
theorem dX3_giveBackLatest_4 : decode cX3_giveBackLatest 4 = .ok (.ifCond .le 21, 3) := by decide +kernel
theorem dX3_giveBackLatest_7 : decode cX3_giveBackLatest 7 = .ok (.aload_n 1, 1) := by decide +kernel
theorem dX3_giveBackLatest_8 : decode cX3_giveBackLatest 8 = .ok (.aload_n 0, 1) := by decide +kernel
theorem dX3_giveBackLatest_9 : decode cX3_giveBackLatest 9 = .ok (.invokevirtual 34, 3) := by decide +kernel
theorem dX3_giveBackLatest_12 : decode cX3_giveBackLatest 12 = .ok (.invokevirtual 38, 3) := by decide +kernel
theorem dX3_giveBackLatest_15 : decode cX3_giveBackLatest 15 = .ok (.aload_n 0, 1) := by decide +kernel
theorem dX3_giveBackLatest_16 : decode cX3_giveBackLatest 16 = .ok (.dup, 1) := by decide +kernel
theorem dX3_giveBackLatest_17 : decode cX3_giveBackLatest 17 = .ok (.getfield 27, 3) := by decide +kernel
theorem dX3_giveBackLatest_20 : decode cX3_giveBackLatest 20 = .ok (.iconst 1, 1) := by decide +kernel
theorem dX3_giveBackLatest_21 : decode cX3_giveBackLatest 21 = .ok (.isub, 1) := by decide +kernel
theorem dX3_giveBackLatest_22 : decode cX3_giveBackLatest 22 = .ok (.putfield 27, 3) := by decide +kernel
theorem dX3_giveBackLatest_25 : decode cX3_giveBackLatest 25 = .ok (.return_, 1) := by decide +kernel
theorem dX3_latest_0 : decode cX3_latest 0 = .ok (.aload_n 0, 1) := by decide +kernel
theorem dX3_latest_1 : decode cX3_latest 1 = .ok (.getfield 31, 3) := by decide +kernel
theorem dX3_latest_4 : decode cX3_latest 4 = .ok (.aload_n 0, 1) := by decide +kernel
theorem dX3_latest_5 : decode cX3_latest 5 = .ok (.getfield 27, 3) := by decide +kernel
theorem dX3_latest_8 : decode cX3_latest 8 = .ok (.iadd, 1) := by decide +kernel
theorem dX3_latest_9 : decode cX3_latest 9 = .ok (.iconst 1, 1) := by decide +kernel
theorem dX3_latest_10 : decode cX3_latest 10 = .ok (.isub, 1) := by decide +kernel
theorem dX3_latest_11 : decode cX3_latest 11 = .ok (.iconst 4, 1) := by decide +kernel
theorem dX3_latest_12 : decode cX3_latest 12 = .ok (.irem, 1) := by decide +kernel
theorem dX3_latest_13 : decode cX3_latest 13 = .ok (.tableswitch 42 0 2 #[27, 32, 37], 27) := by decide +kernel
theorem dX3_latest_40 : decode cX3_latest 40 = .ok (.aload_n 0, 1) := by decide +kernel
theorem dX3_latest_41 : decode cX3_latest 41 = .ok (.getfield 12, 3) := by decide +kernel
theorem dX3_latest_44 : decode cX3_latest 44 = .ok (.areturn, 1) := by decide +kernel
theorem dX3_latest_45 : decode cX3_latest 45 = .ok (.aload_n 0, 1) := by decide +kernel
theorem dX3_latest_46 : decode cX3_latest 46 = .ok (.getfield 18, 3) := by decide +kernel
theorem dX3_latest_49 : decode cX3_latest 49 = .ok (.areturn, 1) := by decide +kernel
theorem dX3_latest_50 : decode cX3_latest 50 = .ok (.aload_n 0, 1) := by decide +kernel
theorem dX3_latest_51 : decode cX3_latest 51 = .ok (.getfield 21, 3) := by decide +kernel
theorem dX3_latest_54 : decode cX3_latest 54 = .ok (.areturn, 1) := by decide +kernel
theorem dX3_latest_55 : decode cX3_latest 55 = .ok (.aload_n 0, 1) := by decide +kernel
theorem dX3_latest_56 : decode cX3_latest 56 = .ok (.getfield 24, 3) := by decide +kernel
theorem dX3_latest_59 : decode cX3_latest 59 = .ok (.areturn, 1) := by decide +kernel
theorem dX4_init_0 : decode cX4_init 0 = .ok (.aload_n 0, 1) := by decide +kernel
theorem dX4_init_1 : decode cX4_init 1 = .ok (.invokespecial 3, 3) := by decide +kernel
theorem dX4_init_4 : decode cX4_init 4 = .ok (.aload_n 0, 1) := by decide +kernel
theorem dX4_init_5 : decode cX4_init 5 = .ok (.new 9, 3) := by decide +kernel
theorem dX4_init_8 : decode cX4_init 8 = .ok (.dup, 1) := by decide +kernel
theorem dX4_init_9 : decode cX4_init 9 = .ok (.invokespecial 11, 3) := by decide +kernel
theorem dX4_init_12 : decode cX4_init 12 = .ok (.putfield 12, 3) := by decide +kernel
theorem dX4_init_15 : decode cX4_init 15 = .ok (.return_, 1) := by decide +kernel
theorem dX4_ring_0 : decode cX4_ring 0 = .ok (.iload_n 0, 1) := by decide +kernel
theorem dX4_ring_1 : decode cX4_ring 1 = .ok (.iload_n 0, 1) := by decide +kernel
theorem dX4_ring_2 : decode cX4_ring 2 = .ok (.iconst 1, 1) := by decide +kernel
theorem dX4_ring_3 : decode cX4_ring 3 = .ok (.ishr, 1) := by decide +kernel
theorem dX4_ring_4 : decode cX4_ring 4 = .ok (.ixor, 1) := by decide +kernel
theorem dX4_ring_5 : decode cX4_ring 5 = .ok (.ireturn, 1) := by decide +kernel
theorem dX4_neighbour_0 : decode cX4_neighbour 0 = .ok (.aload_n 0, 1) := by decide +kernel
theorem dX4_neighbour_1 : decode cX4_neighbour 1 = .ok (.getfield 18, 3) := by decide +kernel
theorem dX4_neighbour_4 : decode cX4_neighbour 4 = .ok (.invokestatic 22, 3) := by decide +kernel
theorem dX4_neighbour_7 : decode cX4_neighbour 7 = .ok (.iload_n 1, 1) := by decide +kernel
theorem dX4_neighbour_8 : decode cX4_neighbour 8 = .ok (.iadd, 1) := by decide +kernel
theorem dX4_neighbour_9 : decode cX4_neighbour 9 = .ok (.iconst 3, 1) := by decide +kernel
theorem dX4_neighbour_10 : decode cX4_neighbour 10 = .ok (.iand, 1) := by decide +kernel
theorem dX4_neighbour_11 : decode cX4_neighbour 11 = .ok (.invokestatic 22, 3) := by decide +kernel
theorem dX4_neighbour_14 : decode cX4_neighbour 14 = .ok (.ireturn, 1) := by decide +kernel
theorem dX4_stepUnder_0 : decode cX4_stepUnder 0 = .ok (.aload_n 0, 1) := by decide +kernel
theorem dX4_stepUnder_1 : decode cX4_stepUnder 1 = .ok (.getfield 18, 3) := by decide +kernel
theorem dX4_stepUnder_4 : decode cX4_stepUnder 4 = .ok (.iload_n 2, 1) := by decide +kernel
theorem dX4_stepUnder_5 : decode cX4_stepUnder 5 = .ok (.ixor, 1) := by decide +kernel
theorem dX4_stepUnder_6 : decode cX4_stepUnder 6 = .ok (.iconst 3, 1) := by decide +kernel
theorem dX4_stepUnder_7 : decode cX4_stepUnder 7 = .ok (.if_icmp .ne 19, 3) := by decide +kernel
theorem dX4_stepUnder_10 : decode cX4_stepUnder 10 = .ok (.iload_n 1, 1) := by decide +kernel
theorem dX4_stepUnder_11 : decode cX4_stepUnder 11 = .ok (.iconst 1, 1) := by decide +kernel
theorem dX4_stepUnder_12 : decode cX4_stepUnder 12 = .ok (.if_icmp .ne 12, 3) := by decide +kernel
theorem dX4_stepUnder_15 : decode cX4_stepUnder 15 = .ok (.iconst 2, 1) := by decide +kernel
theorem dX4_stepUnder_16 : decode cX4_stepUnder 16 = .ok (.aload_n 0, 1) := by decide +kernel
theorem dX4_stepUnder_17 : decode cX4_stepUnder 17 = .ok (.getfield 26, 3) := by decide +kernel
theorem dX4_stepUnder_20 : decode cX4_stepUnder 20 = .ok (.imul, 1) := by decide +kernel
theorem dX4_stepUnder_21 : decode cX4_stepUnder 21 = .ok (.goto 4, 3) := by decide +kernel
theorem dX4_stepUnder_24 : decode cX4_stepUnder 24 = .ok (.iconst 0, 1) := by decide +kernel
theorem dX4_stepUnder_25 : decode cX4_stepUnder 25 = .ok (.ireturn, 1) := by decide +kernel
theorem dX4_stepUnder_26 : decode cX4_stepUnder 26 = .ok (.iload_n 2, 1) := by decide +kernel
theorem dX4_stepUnder_27 : decode cX4_stepUnder 27 = .ok (.aload_n 0, 1) := by decide +kernel
theorem dX4_stepUnder_28 : decode cX4_stepUnder 28 = .ok (.getfield 18, 3) := by decide +kernel
theorem dX4_stepUnder_31 : decode cX4_stepUnder 31 = .ok (.if_icmp .ne 5, 3) := by decide +kernel
theorem dX4_stepUnder_34 : decode cX4_stepUnder 34 = .ok (.iconst 0, 1) := by decide +kernel
theorem dX4_stepUnder_35 : decode cX4_stepUnder 35 = .ok (.ireturn, 1) := by decide +kernel
theorem dX4_stepUnder_36 : decode cX4_stepUnder 36 = .ok (.iload_n 2, 1) := by decide +kernel
theorem dX4_stepUnder_37 : decode cX4_stepUnder 37 = .ok (.aload_n 0, 1) := by decide +kernel
theorem dX4_stepUnder_38 : decode cX4_stepUnder 38 = .ok (.iconst 1, 1) := by decide +kernel
theorem dX4_stepUnder_39 : decode cX4_stepUnder 39 = .ok (.invokevirtual 29, 3) := by decide +kernel
theorem dX4_stepUnder_42 : decode cX4_stepUnder 42 = .ok (.if_icmp .ne 7, 3) := by decide +kernel
theorem dX4_stepUnder_45 : decode cX4_stepUnder 45 = .ok (.iconst 1, 1) := by decide +kernel
theorem dX4_stepUnder_46 : decode cX4_stepUnder 46 = .ok (.goto 4, 3) := by decide +kernel
theorem dX4_stepUnder_49 : decode cX4_stepUnder 49 = .ok (.iconst (-1), 1) := by decide +kernel
theorem dX4_stepUnder_50 : decode cX4_stepUnder 50 = .ok (.ireturn, 1) := by decide +kernel
theorem dX4_hasRoom_0 : decode cX4_hasRoom 0 = .ok (.aload_n 0, 1) := by decide +kernel
theorem dX4_hasRoom_1 : decode cX4_hasRoom 1 = .ok (.getfield 32, 3) := by decide +kernel
theorem dX4_hasRoom_4 : decode cX4_hasRoom 4 = .ok (.iload_n 1, 1) := by decide +kernel
theorem dX4_hasRoom_5 : decode cX4_hasRoom 5 = .ok (.iadd, 1) := by decide +kernel
theorem dX4_hasRoom_6 : decode cX4_hasRoom 6 = .ok (.ldc 35, 2) := by decide +kernel
theorem dX4_hasRoom_8 : decode cX4_hasRoom 8 = .ok (.if_icmp .gt 18, 3) := by decide +kernel
theorem dX4_hasRoom_11 : decode cX4_hasRoom 11 = .ok (.aload_n 0, 1) := by decide +kernel
theorem dX4_hasRoom_12 : decode cX4_hasRoom 12 = .ok (.getfield 36, 3) := by decide +kernel
theorem dX4_hasRoom_15 : decode cX4_hasRoom 15 = .ok (.iload_n 2, 1) := by decide +kernel
theorem dX4_hasRoom_16 : decode cX4_hasRoom 16 = .ok (.iadd, 1) := by decide +kernel
theorem dX4_hasRoom_17 : decode cX4_hasRoom 17 = .ok (.ldc 35, 2) := by decide +kernel
theorem dX4_hasRoom_19 : decode cX4_hasRoom 19 = .ok (.if_icmp .gt 7, 3) := by decide +kernel
theorem dX4_hasRoom_22 : decode cX4_hasRoom 22 = .ok (.iconst 1, 1) := by decide +kernel
theorem dX4_hasRoom_23 : decode cX4_hasRoom 23 = .ok (.goto 4, 3) := by decide +kernel
theorem dX4_hasRoom_26 : decode cX4_hasRoom 26 = .ok (.iconst 0, 1) := by decide +kernel
theorem dX4_hasRoom_27 : decode cX4_hasRoom 27 = .ok (.ireturn, 1) := by decide +kernel
theorem dX4_sense_0 : decode cX4_sense 0 = .ok (.aload_n 0, 1) := by decide +kernel
theorem dX4_sense_1 : decode cX4_sense 1 = .ok (.getfield 18, 3) := by decide +kernel
theorem dX4_sense_4 : decode cX4_sense 4 = .ok (.iload_n 1, 1) := by decide +kernel
theorem dX4_sense_5 : decode cX4_sense 5 = .ok (.ixor, 1) := by decide +kernel
theorem dX4_sense_6 : decode cX4_sense 6 = .ok (.iconst 3, 1) := by decide +kernel
theorem dX4_sense_7 : decode cX4_sense 7 = .ok (.if_icmp .ne 13, 3) := by decide +kernel
theorem dX4_sense_10 : decode cX4_sense 10 = .ok (.aload_n 0, 1) := by decide +kernel
theorem dX4_sense_11 : decode cX4_sense 11 = .ok (.dup, 1) := by decide +kernel
theorem dX4_sense_12 : decode cX4_sense 12 = .ok (.getfield 39, 3) := by decide +kernel
theorem dX4_sense_15 : decode cX4_sense 15 = .ok (.iconst 1, 1) := by decide +kernel
theorem dX4_sense_16 : decode cX4_sense 16 = .ok (.iadd, 1) := by decide +kernel
theorem dX4_sense_17 : decode cX4_sense 17 = .ok (.putfield 39, 3) := by decide +kernel
theorem dX4_sense_20 : decode cX4_sense 20 = .ok (.aload_n 0, 1) := by decide +kernel
theorem dX4_sense_21 : decode cX4_sense 21 = .ok (.getfield 12, 3) := by decide +kernel
theorem dX4_sense_24 : decode cX4_sense 24 = .ok (.iload_n 2, 1) := by decide +kernel
theorem dX4_sense_25 : decode cX4_sense 25 = .ok (.iload_n 3, 1) := by decide +kernel
theorem dX4_sense_26 : decode cX4_sense 26 = .ok (.aload_n 0, 1) := by decide +kernel
theorem dX4_sense_27 : decode cX4_sense 27 = .ok (.getfield 18, 3) := by decide +kernel
theorem dX4_sense_30 : decode cX4_sense 30 = .ok (.invokevirtual 42, 3) := by decide +kernel
theorem dX4_sense_33 : decode cX4_sense 33 = .ok (.aload_n 0, 1) := by decide +kernel
theorem dX4_sense_34 : decode cX4_sense 34 = .ok (.iload_n 1, 1) := by decide +kernel
theorem dX4_sense_35 : decode cX4_sense 35 = .ok (.iload_n 2, 1) := by decide +kernel
theorem dX4_sense_36 : decode cX4_sense 36 = .ok (.iload_n 3, 1) := by decide +kernel
theorem dX4_sense_37 : decode cX4_sense 37 = .ok (.invokevirtual 46, 3) := by decide +kernel
theorem dX4_sense_40 : decode cX4_sense 40 = .ok (.return_, 1) := by decide +kernel
theorem dX4_canRetrace_0 : decode cX4_canRetrace 0 = .ok (.aload_n 0, 1) := by decide +kernel
theorem dX4_canRetrace_1 : decode cX4_canRetrace 1 = .ok (.getfield 12, 3) := by decide +kernel
theorem dX4_canRetrace_4 : decode cX4_canRetrace 4 = .ok (.getfield 49, 3) := by decide +kernel
theorem dX4_canRetrace_7 : decode cX4_canRetrace 7 = .ok (.iload_n 1, 1) := by decide +kernel
theorem dX4_canRetrace_8 : decode cX4_canRetrace 8 = .ok (.if_icmp .ge 5, 3) := by decide +kernel
theorem dX4_canRetrace_11 : decode cX4_canRetrace 11 = .ok (.iconst 0, 1) := by decide +kernel
theorem dX4_canRetrace_12 : decode cX4_canRetrace 12 = .ok (.ireturn, 1) := by decide +kernel
theorem dX4_canRetrace_13 : decode cX4_canRetrace 13 = .ok (.iconst 0, 1) := by decide +kernel
theorem dX4_canRetrace_14 : decode cX4_canRetrace 14 = .ok (.istore_n 2, 1) := by decide +kernel
theorem dX4_canRetrace_15 : decode cX4_canRetrace 15 = .ok (.iconst 0, 1) := by decide +kernel
theorem dX4_canRetrace_16 : decode cX4_canRetrace 16 = .ok (.istore_n 3, 1) := by decide +kernel
theorem dX4_canRetrace_17 : decode cX4_canRetrace 17 = .ok (.aload_n 0, 1) := by decide +kernel
theorem dX4_canRetrace_18 : decode cX4_canRetrace 18 = .ok (.getfield 12, 3) := by decide +kernel
theorem dX4_canRetrace_21 : decode cX4_canRetrace 21 = .ok (.getfield 49, 3) := by decide +kernel
theorem dX4_canRetrace_24 : decode cX4_canRetrace 24 = .ok (.iload_n 1, 1) := by decide +kernel
theorem dX4_canRetrace_25 : decode cX4_canRetrace 25 = .ok (.isub, 1) := by decide +kernel
theorem dX4_canRetrace_26 : decode cX4_canRetrace 26 = .ok (.istore 4, 2) := by decide +kernel
theorem dX4_canRetrace_28 : decode cX4_canRetrace 28 = .ok (.iload 4, 2) := by decide +kernel
theorem dX4_canRetrace_30 : decode cX4_canRetrace 30 = .ok (.aload_n 0, 1) := by decide +kernel
theorem dX4_canRetrace_31 : decode cX4_canRetrace 31 = .ok (.getfield 12, 3) := by decide +kernel
theorem dX4_canRetrace_34 : decode cX4_canRetrace 34 = .ok (.getfield 49, 3) := by decide +kernel
theorem dX4_canRetrace_37 : decode cX4_canRetrace 37 = .ok (.if_icmp .ge 36, 3) := by decide +kernel
theorem dX4_canRetrace_40 : decode cX4_canRetrace 40 = .ok (.iload_n 2, 1) := by decide +kernel
theorem dX4_canRetrace_41 : decode cX4_canRetrace 41 = .ok (.aload_n 0, 1) := by decide +kernel
theorem dX4_canRetrace_42 : decode cX4_canRetrace 42 = .ok (.getfield 12, 3) := by decide +kernel
theorem dX4_canRetrace_45 : decode cX4_canRetrace 45 = .ok (.iload 4, 2) := by decide +kernel
theorem dX4_canRetrace_47 : decode cX4_canRetrace 47 = .ok (.invokevirtual 52, 3) := by decide +kernel
theorem dX4_canRetrace_50 : decode cX4_canRetrace 50 = .ok (.iadd, 1) := by decide +kernel
theorem dX4_canRetrace_51 : decode cX4_canRetrace 51 = .ok (.istore_n 2, 1) := by decide +kernel
theorem dX4_canRetrace_52 : decode cX4_canRetrace 52 = .ok (.iload_n 3, 1) := by decide +kernel
theorem dX4_canRetrace_53 : decode cX4_canRetrace 53 = .ok (.aload_n 0, 1) := by decide +kernel
theorem dX4_canRetrace_54 : decode cX4_canRetrace 54 = .ok (.getfield 12, 3) := by decide +kernel
theorem dX4_canRetrace_57 : decode cX4_canRetrace 57 = .ok (.iload 4, 2) := by decide +kernel
theorem dX4_canRetrace_59 : decode cX4_canRetrace 59 = .ok (.invokevirtual 55, 3) := by decide +kernel
theorem dX4_canRetrace_62 : decode cX4_canRetrace 62 = .ok (.invokestatic 58, 3) := by decide +kernel
theorem dX4_canRetrace_65 : decode cX4_canRetrace 65 = .ok (.iadd, 1) := by decide +kernel
theorem dX4_canRetrace_66 : decode cX4_canRetrace 66 = .ok (.istore_n 3, 1) := by decide +kernel
theorem dX4_canRetrace_67 : decode cX4_canRetrace 67 = .ok (.iinc 4 1, 3) := by decide +kernel
theorem dX4_canRetrace_70 : decode cX4_canRetrace 70 = .ok (.goto (-42), 3) := by decide +kernel
theorem dX4_canRetrace_73 : decode cX4_canRetrace 73 = .ok (.aload_n 0, 1) := by decide +kernel
theorem dX4_canRetrace_74 : decode cX4_canRetrace 74 = .ok (.iload_n 2, 1) := by decide +kernel
theorem dX4_canRetrace_75 : decode cX4_canRetrace 75 = .ok (.iload_n 3, 1) := by decide +kernel
theorem dX4_canRetrace_76 : decode cX4_canRetrace 76 = .ok (.invokevirtual 63, 3) := by decide +kernel
theorem dX4_canRetrace_79 : decode cX4_canRetrace 79 = .ok (.ireturn, 1) := by decide +kernel
theorem dX4_retrace_0 : decode cX4_retrace 0 = .ok (.iconst 0, 1) := by decide +kernel
theorem dX4_retrace_1 : decode cX4_retrace 1 = .ok (.istore_n 2, 1) := by decide +kernel
theorem dX4_retrace_2 : decode cX4_retrace 2 = .ok (.iload_n 2, 1) := by decide +kernel
theorem dX4_retrace_3 : decode cX4_retrace 3 = .ok (.iload_n 1, 1) := by decide +kernel
theorem dX4_retrace_4 : decode cX4_retrace 4 = .ok (.if_icmp .ge 55, 3) := by decide +kernel
theorem dX4_retrace_7 : decode cX4_retrace 7 = .ok (.aload_n 0, 1) := by decide +kernel
theorem dX4_retrace_8 : decode cX4_retrace 8 = .ok (.getfield 12, 3) := by decide +kernel
theorem dX4_retrace_11 : decode cX4_retrace 11 = .ok (.getfield 49, 3) := by decide +kernel
theorem dX4_retrace_14 : decode cX4_retrace 14 = .ok (.iconst 1, 1) := by decide +kernel
theorem dX4_retrace_15 : decode cX4_retrace 15 = .ok (.isub, 1) := by decide +kernel
theorem dX4_retrace_16 : decode cX4_retrace 16 = .ok (.istore_n 3, 1) := by decide +kernel
theorem dX4_retrace_17 : decode cX4_retrace 17 = .ok (.aload_n 0, 1) := by decide +kernel
theorem dX4_retrace_18 : decode cX4_retrace 18 = .ok (.aload_n 0, 1) := by decide +kernel
theorem dX4_retrace_19 : decode cX4_retrace 19 = .ok (.getfield 12, 3) := by decide +kernel
theorem dX4_retrace_22 : decode cX4_retrace 22 = .ok (.iload_n 3, 1) := by decide +kernel
theorem dX4_retrace_23 : decode cX4_retrace 23 = .ok (.invokevirtual 67, 3) := by decide +kernel
theorem dX4_retrace_26 : decode cX4_retrace 26 = .ok (.aload_n 0, 1) := by decide +kernel
theorem dX4_retrace_27 : decode cX4_retrace 27 = .ok (.getfield 12, 3) := by decide +kernel
theorem dX4_retrace_30 : decode cX4_retrace 30 = .ok (.iload_n 3, 1) := by decide +kernel
theorem dX4_retrace_31 : decode cX4_retrace 31 = .ok (.invokevirtual 55, 3) := by decide +kernel
theorem dX4_retrace_34 : decode cX4_retrace 34 = .ok (.ineg, 1) := by decide +kernel
theorem dX4_retrace_35 : decode cX4_retrace 35 = .ok (.aload_n 0, 1) := by decide +kernel
theorem dX4_retrace_36 : decode cX4_retrace 36 = .ok (.getfield 12, 3) := by decide +kernel
theorem dX4_retrace_39 : decode cX4_retrace 39 = .ok (.iload_n 3, 1) := by decide +kernel
theorem dX4_retrace_40 : decode cX4_retrace 40 = .ok (.invokevirtual 52, 3) := by decide +kernel
theorem dX4_retrace_43 : decode cX4_retrace 43 = .ok (.invokevirtual 46, 3) := by decide +kernel
theorem dX4_retrace_46 : decode cX4_retrace 46 = .ok (.aload_n 0, 1) := by decide +kernel
theorem dX4_retrace_47 : decode cX4_retrace 47 = .ok (.getfield 12, 3) := by decide +kernel
theorem dX4_retrace_50 : decode cX4_retrace 50 = .ok (.invokevirtual 70, 3) := by decide +kernel
theorem dX4_retrace_53 : decode cX4_retrace 53 = .ok (.iinc 2 1, 3) := by decide +kernel
theorem dX4_retrace_56 : decode cX4_retrace 56 = .ok (.goto (-54), 3) := by decide +kernel
theorem dX4_retrace_59 : decode cX4_retrace 59 = .ok (.return_, 1) := by decide +kernel
theorem dX4_move_0 : decode cX4_move 0 = .ok (.aload_n 0, 1) := by decide +kernel
theorem dX4_move_1 : decode cX4_move 1 = .ok (.aload_n 0, 1) := by decide +kernel
theorem dX4_move_2 : decode cX4_move 2 = .ok (.getfield 18, 3) := by decide +kernel
theorem dX4_move_5 : decode cX4_move 5 = .ok (.iload_n 1, 1) := by decide +kernel
theorem dX4_move_6 : decode cX4_move 6 = .ok (.ixor, 1) := by decide +kernel
theorem dX4_move_7 : decode cX4_move 7 = .ok (.iload_n 2, 1) := by decide +kernel
theorem dX4_move_8 : decode cX4_move 8 = .ok (.invokevirtual 73, 3) := by decide +kernel
theorem dX4_move_11 : decode cX4_move 11 = .ok (.aload_n 0, 1) := by decide +kernel
theorem dX4_move_12 : decode cX4_move 12 = .ok (.iload_n 1, 1) := by decide +kernel
theorem dX4_move_13 : decode cX4_move 13 = .ok (.putfield 18, 3) := by decide +kernel
theorem dX4_move_16 : decode cX4_move 16 = .ok (.aload_n 0, 1) := by decide +kernel
theorem dX4_move_17 : decode cX4_move 17 = .ok (.dup, 1) := by decide +kernel
theorem dX4_move_18 : decode cX4_move 18 = .ok (.getfield 77, 3) := by decide +kernel
theorem dX4_move_21 : decode cX4_move 21 = .ok (.iload_n 2, 1) := by decide +kernel
theorem dX4_move_22 : decode cX4_move 22 = .ok (.iadd, 1) := by decide +kernel
theorem dX4_move_23 : decode cX4_move 23 = .ok (.putfield 77, 3) := by decide +kernel
theorem dX4_move_26 : decode cX4_move 26 = .ok (.aload_n 0, 1) := by decide +kernel
theorem dX4_move_27 : decode cX4_move 27 = .ok (.dup, 1) := by decide +kernel
theorem dX4_move_28 : decode cX4_move 28 = .ok (.getfield 36, 3) := by decide +kernel
theorem dX4_move_31 : decode cX4_move 31 = .ok (.iload_n 2, 1) := by decide +kernel
theorem dX4_move_32 : decode cX4_move 32 = .ok (.invokestatic 58, 3) := by decide +kernel
theorem dX4_move_35 : decode cX4_move 35 = .ok (.iadd, 1) := by decide +kernel
theorem dX4_move_36 : decode cX4_move 36 = .ok (.putfield 36, 3) := by decide +kernel
theorem dX4_move_39 : decode cX4_move 39 = .ok (.aload_n 0, 1) := by decide +kernel
theorem dX4_move_40 : decode cX4_move 40 = .ok (.dup, 1) := by decide +kernel
theorem dX4_move_41 : decode cX4_move 41 = .ok (.getfield 32, 3) := by decide +kernel
theorem dX4_move_44 : decode cX4_move 44 = .ok (.iload_n 3, 1) := by decide +kernel
theorem dX4_move_45 : decode cX4_move 45 = .ok (.iadd, 1) := by decide +kernel
theorem dX4_move_46 : decode cX4_move 46 = .ok (.putfield 32, 3) := by decide +kernel
theorem dX4_move_49 : decode cX4_move 49 = .ok (.iload_n 2, 1) := by decide +kernel
theorem dX4_move_50 : decode cX4_move 50 = .ok (.ifCond .eq 16, 3) := by decide +kernel
theorem dX4_move_53 : decode cX4_move 53 = .ok (.aload_n 0, 1) := by decide +kernel
theorem dX4_move_54 : decode cX4_move 54 = .ok (.iload_n 2, 1) := by decide +kernel
theorem dX4_move_55 : decode cX4_move 55 = .ok (.ifCond .le 7, 3) := by decide +kernel
theorem dX4_move_58 : decode cX4_move 58 = .ok (.iconst 1, 1) := by decide +kernel
theorem dX4_move_59 : decode cX4_move 59 = .ok (.goto 4, 3) := by decide +kernel
theorem dX4_move_62 : decode cX4_move 62 = .ok (.iconst (-1), 1) := by decide +kernel
theorem dX4_move_63 : decode cX4_move 63 = .ok (.putfield 26, 3) := by decide +kernel
theorem dX4_move_66 : decode cX4_move 66 = .ok (.return_, 1) := by decide +kernel
theorem dX4_book_0 : decode cX4_book 0 = .ok (.iload_n 1, 1) := by decide +kernel
theorem dX4_book_1 : decode cX4_book 1 = .ok (.tableswitch 66 1 3 #[40, 27, 53], 27) := by decide +kernel
theorem dX4_book_28 : decode cX4_book 28 = .ok (.aload_n 0, 1) := by decide +kernel
theorem dX4_book_29 : decode cX4_book 29 = .ok (.dup, 1) := by decide +kernel
theorem dX4_book_30 : decode cX4_book 30 = .ok (.getfield 80, 3) := by decide +kernel
theorem dX4_book_33 : decode cX4_book 33 = .ok (.iload_n 2, 1) := by decide +kernel
theorem dX4_book_34 : decode cX4_book 34 = .ok (.iadd, 1) := by decide +kernel
theorem dX4_book_35 : decode cX4_book 35 = .ok (.putfield 80, 3) := by decide +kernel
theorem dX4_book_38 : decode cX4_book 38 = .ok (.goto 29, 3) := by decide +kernel
theorem dX4_book_41 : decode cX4_book 41 = .ok (.aload_n 0, 1) := by decide +kernel
theorem dX4_book_42 : decode cX4_book 42 = .ok (.dup, 1) := by decide +kernel
theorem dX4_book_43 : decode cX4_book 43 = .ok (.getfield 83, 3) := by decide +kernel
theorem dX4_book_46 : decode cX4_book 46 = .ok (.iload_n 2, 1) := by decide +kernel
theorem dX4_book_47 : decode cX4_book 47 = .ok (.iadd, 1) := by decide +kernel
theorem dX4_book_48 : decode cX4_book 48 = .ok (.putfield 83, 3) := by decide +kernel
theorem dX4_book_51 : decode cX4_book 51 = .ok (.goto 16, 3) := by decide +kernel
theorem dX4_book_54 : decode cX4_book 54 = .ok (.aload_n 0, 1) := by decide +kernel
theorem dX4_book_55 : decode cX4_book 55 = .ok (.dup, 1) := by decide +kernel
theorem dX4_book_56 : decode cX4_book 56 = .ok (.getfield 86, 3) := by decide +kernel
theorem dX4_book_59 : decode cX4_book 59 = .ok (.iload_n 2, 1) := by decide +kernel
theorem dX4_book_60 : decode cX4_book 60 = .ok (.iadd, 1) := by decide +kernel
theorem dX4_book_61 : decode cX4_book 61 = .ok (.putfield 86, 3) := by decide +kernel
theorem dX4_book_64 : decode cX4_book 64 = .ok (.goto 3, 3) := by decide +kernel
theorem dX4_book_67 : decode cX4_book 67 = .ok (.return_, 1) := by decide +kernel
theorem dX4_turnsOver_0 : decode cX4_turnsOver 0 = .ok (.iload_n 1, 1) := by decide +kernel
theorem dX4_turnsOver_1 : decode cX4_turnsOver 1 = .ok (.iconst 1, 1) := by decide +kernel
theorem dX4_turnsOver_2 : decode cX4_turnsOver 2 = .ok (.if_icmp .ge 7, 3) := by decide +kernel
theorem dX4_turnsOver_5 : decode cX4_turnsOver 5 = .ok (.iconst 0, 1) := by decide +kernel
theorem dX4_turnsOver_6 : decode cX4_turnsOver 6 = .ok (.goto 11, 3) := by decide +kernel
theorem dX4_turnsOver_9 : decode cX4_turnsOver 9 = .ok (.aload_n 0, 1) := by decide +kernel
theorem dX4_turnsOver_10 : decode cX4_turnsOver 10 = .ok (.getfield 77, 3) := by decide +kernel
theorem dX4_turnsOver_13 : decode cX4_turnsOver 13 = .ok (.iload_n 1, 1) := by decide +kernel
theorem dX4_turnsOver_14 : decode cX4_turnsOver 14 = .ok (.invokestatic 89, 3) := by decide +kernel
theorem dX4_turnsOver_17 : decode cX4_turnsOver 17 = .ok (.ireturn, 1) := by decide +kernel
theorem dX4_placeIn_0 : decode cX4_placeIn 0 = .ok (.iload_n 1, 1) := by decide +kernel
theorem dX4_placeIn_1 : decode cX4_placeIn 1 = .ok (.iconst 1, 1) := by decide +kernel
theorem dX4_placeIn_2 : decode cX4_placeIn 2 = .ok (.if_icmp .ge 7, 3) := by decide +kernel
theorem dX4_placeIn_5 : decode cX4_placeIn 5 = .ok (.iconst 0, 1) := by decide +kernel
theorem dX4_placeIn_6 : decode cX4_placeIn 6 = .ok (.goto 11, 3) := by decide +kernel
theorem dX4_placeIn_9 : decode cX4_placeIn 9 = .ok (.aload_n 0, 1) := by decide +kernel
theorem dX4_placeIn_10 : decode cX4_placeIn 10 = .ok (.getfield 77, 3) := by decide +kernel
theorem dX4_placeIn_13 : decode cX4_placeIn 13 = .ok (.iload_n 1, 1) := by decide +kernel
theorem dX4_placeIn_14 : decode cX4_placeIn 14 = .ok (.invokestatic 93, 3) := by decide +kernel
theorem dX4_placeIn_17 : decode cX4_placeIn 17 = .ok (.ireturn, 1) := by decide +kernel
theorem dX4_passMark_0 : decode cX4_passMark 0 = .ok (.aload_n 0, 1) := by decide +kernel
theorem dX4_passMark_1 : decode cX4_passMark 1 = .ok (.iload_n 1, 1) := by decide +kernel
theorem dX4_passMark_2 : decode cX4_passMark 2 = .ok (.invokevirtual 96, 3) := by decide +kernel
theorem dX4_passMark_5 : decode cX4_passMark 5 = .ok (.istore_n 2, 1) := by decide +kernel
theorem dX4_passMark_6 : decode cX4_passMark 6 = .ok (.iconst 2, 1) := by decide +kernel
theorem dX4_passMark_7 : decode cX4_passMark 7 = .ok (.iload_n 2, 1) := by decide +kernel
theorem dX4_passMark_8 : decode cX4_passMark 8 = .ok (.imul, 1) := by decide +kernel
theorem dX4_passMark_9 : decode cX4_passMark 9 = .ok (.iload_n 1, 1) := by decide +kernel
theorem dX4_passMark_10 : decode cX4_passMark 10 = .ok (.if_icmp .gt 7, 3) := by decide +kernel
theorem dX4_passMark_13 : decode cX4_passMark 13 = .ok (.iload_n 2, 1) := by decide +kernel
theorem dX4_passMark_14 : decode cX4_passMark 14 = .ok (.goto 6, 3) := by decide +kernel
theorem dX4_passMark_17 : decode cX4_passMark 17 = .ok (.iload_n 2, 1) := by decide +kernel
theorem dX4_passMark_18 : decode cX4_passMark 18 = .ok (.iload_n 1, 1) := by decide +kernel
theorem dX4_passMark_19 : decode cX4_passMark 19 = .ok (.isub, 1) := by decide +kernel
theorem dX4_passMark_20 : decode cX4_passMark 20 = .ok (.istore_n 3, 1) := by decide +kernel
theorem dX4_passMark_21 : decode cX4_passMark 21 = .ok (.aload_n 0, 1) := by decide +kernel
theorem dX4_passMark_22 : decode cX4_passMark 22 = .ok (.dup, 1) := by decide +kernel
theorem dX4_passMark_23 : decode cX4_passMark 23 = .ok (.getfield 77, 3) := by decide +kernel
theorem dX4_passMark_26 : decode cX4_passMark 26 = .ok (.iload_n 3, 1) := by decide +kernel
theorem dX4_passMark_27 : decode cX4_passMark 27 = .ok (.isub, 1) := by decide +kernel
theorem dX4_passMark_28 : decode cX4_passMark 28 = .ok (.putfield 77, 3) := by decide +kernel
theorem dX4_passMark_31 : decode cX4_passMark 31 = .ok (.aload_n 0, 1) := by decide +kernel
theorem dX4_passMark_32 : decode cX4_passMark 32 = .ok (.dup, 1) := by decide +kernel
theorem dX4_passMark_33 : decode cX4_passMark 33 = .ok (.getfield 99, 3) := by decide +kernel
theorem dX4_passMark_36 : decode cX4_passMark 36 = .ok (.iload_n 3, 1) := by decide +kernel
theorem dX4_passMark_37 : decode cX4_passMark 37 = .ok (.iadd, 1) := by decide +kernel
theorem dX4_passMark_38 : decode cX4_passMark 38 = .ok (.putfield 99, 3) := by decide +kernel
theorem dX4_passMark_41 : decode cX4_passMark 41 = .ok (.aload_n 0, 1) := by decide +kernel
theorem dX4_passMark_42 : decode cX4_passMark 42 = .ok (.dup, 1) := by decide +kernel
theorem dX4_passMark_43 : decode cX4_passMark 43 = .ok (.getfield 102, 3) := by decide +kernel
theorem dX4_passMark_46 : decode cX4_passMark 46 = .ok (.iload_n 3, 1) := by decide +kernel
theorem dX4_passMark_47 : decode cX4_passMark 47 = .ok (.invokestatic 58, 3) := by decide +kernel
theorem dX4_passMark_50 : decode cX4_passMark 50 = .ok (.iadd, 1) := by decide +kernel
theorem dX4_passMark_51 : decode cX4_passMark 51 = .ok (.putfield 102, 3) := by decide +kernel
theorem dX4_passMark_54 : decode cX4_passMark 54 = .ok (.iload_n 3, 1) := by decide +kernel
theorem dX4_passMark_55 : decode cX4_passMark 55 = .ok (.ireturn, 1) := by decide +kernel
theorem dX4_copyFrom_0 : decode cX4_copyFrom 0 = .ok (.aload_n 0, 1) := by decide +kernel
theorem dX4_copyFrom_1 : decode cX4_copyFrom 1 = .ok (.getfield 12, 3) := by decide +kernel
theorem dX4_copyFrom_4 : decode cX4_copyFrom 4 = .ok (.aload_n 1, 1) := by decide +kernel
theorem dX4_copyFrom_5 : decode cX4_copyFrom 5 = .ok (.getfield 12, 3) := by decide +kernel
theorem dX4_copyFrom_8 : decode cX4_copyFrom 8 = .ok (.invokevirtual 105, 3) := by decide +kernel
theorem dX4_copyFrom_11 : decode cX4_copyFrom 11 = .ok (.aload_n 0, 1) := by decide +kernel
theorem dX4_copyFrom_12 : decode cX4_copyFrom 12 = .ok (.aload_n 1, 1) := by decide +kernel
theorem dX4_copyFrom_13 : decode cX4_copyFrom 13 = .ok (.getfield 18, 3) := by decide +kernel
theorem dX4_copyFrom_16 : decode cX4_copyFrom 16 = .ok (.putfield 18, 3) := by decide +kernel
theorem dX4_copyFrom_19 : decode cX4_copyFrom 19 = .ok (.aload_n 0, 1) := by decide +kernel
theorem dX4_copyFrom_20 : decode cX4_copyFrom 20 = .ok (.aload_n 1, 1) := by decide +kernel
theorem dX4_copyFrom_21 : decode cX4_copyFrom 21 = .ok (.getfield 77, 3) := by decide +kernel
theorem dX4_copyFrom_24 : decode cX4_copyFrom 24 = .ok (.putfield 77, 3) := by decide +kernel
theorem dX4_copyFrom_27 : decode cX4_copyFrom 27 = .ok (.aload_n 0, 1) := by decide +kernel
theorem dX4_copyFrom_28 : decode cX4_copyFrom 28 = .ok (.aload_n 1, 1) := by decide +kernel
theorem dX4_copyFrom_29 : decode cX4_copyFrom 29 = .ok (.getfield 26, 3) := by decide +kernel
theorem dX4_copyFrom_32 : decode cX4_copyFrom 32 = .ok (.putfield 26, 3) := by decide +kernel
theorem dX4_copyFrom_35 : decode cX4_copyFrom 35 = .ok (.aload_n 0, 1) := by decide +kernel
theorem dX4_copyFrom_36 : decode cX4_copyFrom 36 = .ok (.aload_n 1, 1) := by decide +kernel
theorem dX4_copyFrom_37 : decode cX4_copyFrom 37 = .ok (.getfield 80, 3) := by decide +kernel
theorem dX4_copyFrom_40 : decode cX4_copyFrom 40 = .ok (.putfield 80, 3) := by decide +kernel
theorem dX4_copyFrom_43 : decode cX4_copyFrom 43 = .ok (.aload_n 0, 1) := by decide +kernel
theorem dX4_copyFrom_44 : decode cX4_copyFrom 44 = .ok (.aload_n 1, 1) := by decide +kernel
theorem dX4_copyFrom_45 : decode cX4_copyFrom 45 = .ok (.getfield 83, 3) := by decide +kernel
theorem dX4_copyFrom_48 : decode cX4_copyFrom 48 = .ok (.putfield 83, 3) := by decide +kernel
theorem dX4_copyFrom_51 : decode cX4_copyFrom 51 = .ok (.aload_n 0, 1) := by decide +kernel
theorem dX4_copyFrom_52 : decode cX4_copyFrom 52 = .ok (.aload_n 1, 1) := by decide +kernel
theorem dX4_copyFrom_53 : decode cX4_copyFrom 53 = .ok (.getfield 86, 3) := by decide +kernel
theorem dX4_copyFrom_56 : decode cX4_copyFrom 56 = .ok (.putfield 86, 3) := by decide +kernel
theorem dX4_copyFrom_59 : decode cX4_copyFrom 59 = .ok (.aload_n 0, 1) := by decide +kernel
theorem dX4_copyFrom_60 : decode cX4_copyFrom 60 = .ok (.aload_n 1, 1) := by decide +kernel
theorem dX4_copyFrom_61 : decode cX4_copyFrom 61 = .ok (.getfield 99, 3) := by decide +kernel
theorem dX4_copyFrom_64 : decode cX4_copyFrom 64 = .ok (.putfield 99, 3) := by decide +kernel
theorem dX4_copyFrom_67 : decode cX4_copyFrom 67 = .ok (.aload_n 0, 1) := by decide +kernel
theorem dX4_copyFrom_68 : decode cX4_copyFrom 68 = .ok (.aload_n 1, 1) := by decide +kernel
theorem dX4_copyFrom_69 : decode cX4_copyFrom 69 = .ok (.getfield 39, 3) := by decide +kernel
theorem dX4_copyFrom_72 : decode cX4_copyFrom 72 = .ok (.putfield 39, 3) := by decide +kernel
theorem dX4_copyFrom_75 : decode cX4_copyFrom 75 = .ok (.aload_n 0, 1) := by decide +kernel
theorem dX4_copyFrom_76 : decode cX4_copyFrom 76 = .ok (.aload_n 1, 1) := by decide +kernel
theorem dX4_copyFrom_77 : decode cX4_copyFrom 77 = .ok (.getfield 102, 3) := by decide +kernel
theorem dX4_copyFrom_80 : decode cX4_copyFrom 80 = .ok (.putfield 102, 3) := by decide +kernel
theorem dX4_copyFrom_83 : decode cX4_copyFrom 83 = .ok (.aload_n 0, 1) := by decide +kernel
theorem dX4_copyFrom_84 : decode cX4_copyFrom 84 = .ok (.aload_n 1, 1) := by decide +kernel
theorem dX4_copyFrom_85 : decode cX4_copyFrom 85 = .ok (.getfield 36, 3) := by decide +kernel
theorem dX4_copyFrom_88 : decode cX4_copyFrom 88 = .ok (.putfield 36, 3) := by decide +kernel
theorem dX4_copyFrom_91 : decode cX4_copyFrom 91 = .ok (.aload_n 0, 1) := by decide +kernel
theorem dX4_copyFrom_92 : decode cX4_copyFrom 92 = .ok (.aload_n 1, 1) := by decide +kernel
theorem dX4_copyFrom_93 : decode cX4_copyFrom 93 = .ok (.getfield 32, 3) := by decide +kernel
theorem dX4_copyFrom_96 : decode cX4_copyFrom 96 = .ok (.putfield 32, 3) := by decide +kernel
theorem dX4_copyFrom_99 : decode cX4_copyFrom 99 = .ok (.return_, 1) := by decide +kernel
theorem dJ9_floorDiv_7cf53_0 : decode cJ9_floorDiv_7cf53 0 = .ok (.iload_n 0, 1) := by decide +kernel
theorem dJ9_floorDiv_7cf53_1 : decode cJ9_floorDiv_7cf53 1 = .ok (.iload_n 1, 1) := by decide +kernel
theorem dJ9_floorDiv_7cf53_2 : decode cJ9_floorDiv_7cf53 2 = .ok (.idiv, 1) := by decide +kernel
theorem dJ9_floorDiv_7cf53_3 : decode cJ9_floorDiv_7cf53 3 = .ok (.istore_n 2, 1) := by decide +kernel
theorem dJ9_floorDiv_7cf53_4 : decode cJ9_floorDiv_7cf53 4 = .ok (.iload_n 0, 1) := by decide +kernel
theorem dJ9_floorDiv_7cf53_5 : decode cJ9_floorDiv_7cf53 5 = .ok (.iload_n 1, 1) := by decide +kernel
theorem dJ9_floorDiv_7cf53_6 : decode cJ9_floorDiv_7cf53 6 = .ok (.ixor, 1) := by decide +kernel
theorem dJ9_floorDiv_7cf53_7 : decode cJ9_floorDiv_7cf53 7 = .ok (.ifCond .ge 14, 3) := by decide +kernel
theorem dJ9_floorDiv_7cf53_10 : decode cJ9_floorDiv_7cf53 10 = .ok (.iload_n 2, 1) := by decide +kernel
theorem dJ9_floorDiv_7cf53_11 : decode cJ9_floorDiv_7cf53 11 = .ok (.iload_n 1, 1) := by decide +kernel
theorem dJ9_floorDiv_7cf53_12 : decode cJ9_floorDiv_7cf53 12 = .ok (.imul, 1) := by decide +kernel
theorem dJ9_floorDiv_7cf53_13 : decode cJ9_floorDiv_7cf53 13 = .ok (.iload_n 0, 1) := by decide +kernel
theorem dJ9_floorDiv_7cf53_14 : decode cJ9_floorDiv_7cf53 14 = .ok (.if_icmp .eq 7, 3) := by decide +kernel
theorem dJ9_floorDiv_7cf53_17 : decode cJ9_floorDiv_7cf53 17 = .ok (.iload_n 2, 1) := by decide +kernel
theorem dJ9_floorDiv_7cf53_18 : decode cJ9_floorDiv_7cf53 18 = .ok (.iconst 1, 1) := by decide +kernel
theorem dJ9_floorDiv_7cf53_19 : decode cJ9_floorDiv_7cf53 19 = .ok (.isub, 1) := by decide +kernel
theorem dJ9_floorDiv_7cf53_20 : decode cJ9_floorDiv_7cf53 20 = .ok (.ireturn, 1) := by decide +kernel
theorem dJ9_floorDiv_7cf53_21 : decode cJ9_floorDiv_7cf53 21 = .ok (.iload_n 2, 1) := by decide +kernel
theorem dJ9_floorDiv_7cf53_22 : decode cJ9_floorDiv_7cf53 22 = .ok (.ireturn, 1) := by decide +kernel
theorem dJ9_floorMod_7cf53_0 : decode cJ9_floorMod_7cf53 0 = .ok (.iload_n 0, 1) := by decide +kernel
theorem dJ9_floorMod_7cf53_1 : decode cJ9_floorMod_7cf53 1 = .ok (.iload_n 1, 1) := by decide +kernel
theorem dJ9_floorMod_7cf53_2 : decode cJ9_floorMod_7cf53 2 = .ok (.irem, 1) := by decide +kernel
theorem dJ9_floorMod_7cf53_3 : decode cJ9_floorMod_7cf53 3 = .ok (.istore_n 2, 1) := by decide +kernel
theorem dJ9_floorMod_7cf53_4 : decode cJ9_floorMod_7cf53 4 = .ok (.iload_n 0, 1) := by decide +kernel
theorem dJ9_floorMod_7cf53_5 : decode cJ9_floorMod_7cf53 5 = .ok (.iload_n 1, 1) := by decide +kernel
theorem dJ9_floorMod_7cf53_6 : decode cJ9_floorMod_7cf53 6 = .ok (.ixor, 1) := by decide +kernel
theorem dJ9_floorMod_7cf53_7 : decode cJ9_floorMod_7cf53 7 = .ok (.ifCond .ge 11, 3) := by decide +kernel
theorem dJ9_floorMod_7cf53_10 : decode cJ9_floorMod_7cf53 10 = .ok (.iload_n 2, 1) := by decide +kernel
theorem dJ9_floorMod_7cf53_11 : decode cJ9_floorMod_7cf53 11 = .ok (.ifCond .eq 7, 3) := by decide +kernel
theorem dJ9_floorMod_7cf53_14 : decode cJ9_floorMod_7cf53 14 = .ok (.iload_n 2, 1) := by decide +kernel
theorem dJ9_floorMod_7cf53_15 : decode cJ9_floorMod_7cf53 15 = .ok (.iload_n 1, 1) := by decide +kernel
theorem dJ9_floorMod_7cf53_16 : decode cJ9_floorMod_7cf53 16 = .ok (.iadd, 1) := by decide +kernel
theorem dJ9_floorMod_7cf53_17 : decode cJ9_floorMod_7cf53 17 = .ok (.ireturn, 1) := by decide +kernel
theorem dJ9_floorMod_7cf53_18 : decode cJ9_floorMod_7cf53 18 = .ok (.iload_n 2, 1) := by decide +kernel
theorem dJ9_floorMod_7cf53_19 : decode cJ9_floorMod_7cf53 19 = .ok (.ireturn, 1) := by decide +kernel
theorem dJ9_abs_0f7a4_0 : decode cJ9_abs_0f7a4 0 = .ok (.iload_n 0, 1) := by decide +kernel
theorem dJ9_abs_0f7a4_1 : decode cJ9_abs_0f7a4 1 = .ok (.ifCond .ge 8, 3) := by decide +kernel
theorem dJ9_abs_0f7a4_4 : decode cJ9_abs_0f7a4 4 = .ok (.iload_n 0, 1) := by decide +kernel
theorem dJ9_abs_0f7a4_5 : decode cJ9_abs_0f7a4 5 = .ok (.ineg, 1) := by decide +kernel
theorem dJ9_abs_0f7a4_6 : decode cJ9_abs_0f7a4 6 = .ok (.goto 4, 3) := by decide +kernel
theorem dJ9_abs_0f7a4_9 : decode cJ9_abs_0f7a4 9 = .ok (.iload_n 0, 1) := by decide +kernel
theorem dJ9_abs_0f7a4_10 : decode cJ9_abs_0f7a4 10 = .ok (.ireturn, 1) := by decide +kernel
end
section
theorem dX5_init_0 : decode cX5_init 0 = .ok (.aload_n 0, 1) := by decide +kernel
theorem dX5_init_1 : decode cX5_init 1 = .ok (.invokespecial 1, 3) := by decide +kernel
theorem dX5_init_4 : decode cX5_init 4 = .ok (.aload_n 0, 1) := by decide +kernel
theorem dX5_init_5 : decode cX5_init 5 = .ok (.new 7, 3) := by decide +kernel
theorem dX5_init_8 : decode cX5_init 8 = .ok (.dup, 1) := by decide +kernel
theorem dX5_init_9 : decode cX5_init 9 = .ok (.invokespecial 9, 3) := by decide +kernel
theorem dX5_init_12 : decode cX5_init 12 = .ok (.putfield 10, 3) := by decide +kernel
theorem dX5_init_15 : decode cX5_init 15 = .ok (.aload_n 0, 1) := by decide +kernel
theorem dX5_init_16 : decode cX5_init 16 = .ok (.new 7, 3) := by decide +kernel
theorem dX5_init_19 : decode cX5_init 19 = .ok (.dup, 1) := by decide +kernel
theorem dX5_init_20 : decode cX5_init 20 = .ok (.invokespecial 9, 3) := by decide +kernel
theorem dX5_init_23 : decode cX5_init 23 = .ok (.putfield 16, 3) := by decide +kernel
theorem dX5_init_26 : decode cX5_init 26 = .ok (.aload_n 0, 1) := by decide +kernel
theorem dX5_init_27 : decode cX5_init 27 = .ok (.new 7, 3) := by decide +kernel
theorem dX5_init_30 : decode cX5_init 30 = .ok (.dup, 1) := by decide +kernel
theorem dX5_init_31 : decode cX5_init 31 = .ok (.invokespecial 9, 3) := by decide +kernel
theorem dX5_init_34 : decode cX5_init 34 = .ok (.putfield 19, 3) := by decide +kernel
theorem dX5_init_37 : decode cX5_init 37 = .ok (.aload_n 0, 1) := by decide +kernel
theorem dX5_init_38 : decode cX5_init 38 = .ok (.new 22, 3) := by decide +kernel
theorem dX5_init_41 : decode cX5_init 41 = .ok (.dup, 1) := by decide +kernel
theorem dX5_init_42 : decode cX5_init 42 = .ok (.invokespecial 24, 3) := by decide +kernel
theorem dX5_init_45 : decode cX5_init 45 = .ok (.putfield 25, 3) := by decide +kernel
theorem dX5_init_48 : decode cX5_init 48 = .ok (.aload_n 0, 1) := by decide +kernel
theorem dX5_init_49 : decode cX5_init 49 = .ok (.new 29, 3) := by decide +kernel
theorem dX5_init_52 : decode cX5_init 52 = .ok (.dup, 1) := by decide +kernel
theorem dX5_init_53 : decode cX5_init 53 = .ok (.invokespecial 31, 3) := by decide +kernel
theorem dX5_init_56 : decode cX5_init 56 = .ok (.putfield 32, 3) := by decide +kernel
theorem dX5_init_59 : decode cX5_init 59 = .ok (.return_, 1) := by decide +kernel
theorem dX5_feel_0 : decode cX5_feel 0 = .ok (.aload_n 0, 1) := by decide +kernel
theorem dX5_feel_1 : decode cX5_feel 1 = .ok (.iload_n 1, 1) := by decide +kernel
theorem dX5_feel_2 : decode cX5_feel 2 = .ok (.invokevirtual 36, 3) := by decide +kernel
theorem dX5_feel_5 : decode cX5_feel 5 = .ok (.astore 4, 2) := by decide +kernel
theorem dX5_feel_7 : decode cX5_feel 7 = .ok (.iload_n 2, 1) := by decide +kernel
theorem dX5_feel_8 : decode cX5_feel 8 = .ok (.invokestatic 40, 3) := by decide +kernel
theorem dX5_feel_11 : decode cX5_feel 11 = .ok (.iload_n 3, 1) := by decide +kernel
theorem dX5_feel_12 : decode cX5_feel 12 = .ok (.iconst 1, 1) := by decide +kernel
theorem dX5_feel_13 : decode cX5_feel 13 = .ok (.if_icmp .lt 10, 3) := by decide +kernel
theorem dX5_feel_16 : decode cX5_feel 16 = .ok (.iload_n 3, 1) := by decide +kernel
theorem dX5_feel_17 : decode cX5_feel 17 = .ok (.sipush 1000, 3) := by decide +kernel
theorem dX5_feel_20 : decode cX5_feel 20 = .ok (.if_icmp .le 13, 3) := by decide +kernel
theorem dX5_feel_23 : decode cX5_feel 23 = .ok (.new 44, 3) := by decide +kernel
theorem dX5_feel_26 : decode cX5_feel 26 = .ok (.dup, 1) := by decide +kernel
theorem dX5_feel_27 : decode cX5_feel 27 = .ok (.ldc 46, 2) := by decide +kernel
theorem dX5_feel_29 : decode cX5_feel 29 = .ok (.invokespecial 48, 3) := by decide +kernel
theorem dX5_feel_32 : decode cX5_feel 32 = .ok (.athrow, 1) := by decide +kernel
theorem dX5_feel_33 : decode cX5_feel 33 = .ok (.aload 4, 2) := by decide +kernel
theorem dX5_feel_35 : decode cX5_feel 35 = .ok (.aload_n 0, 1) := by decide +kernel
theorem dX5_feel_36 : decode cX5_feel 36 = .ok (.getfield 10, 3) := by decide +kernel
theorem dX5_feel_39 : decode cX5_feel 39 = .ok (.getfield 51, 3) := by decide +kernel
theorem dX5_feel_42 : decode cX5_feel 42 = .ok (.iload_n 2, 1) := by decide +kernel
theorem dX5_feel_43 : decode cX5_feel 43 = .ok (.invokevirtual 55, 3) := by decide +kernel
theorem dX5_feel_46 : decode cX5_feel 46 = .ok (.istore 5, 2) := by decide +kernel
theorem dX5_feel_48 : decode cX5_feel 48 = .ok (.aload 4, 2) := by decide +kernel
theorem dX5_feel_50 : decode cX5_feel 50 = .ok (.iload_n 3, 1) := by decide +kernel
theorem dX5_feel_51 : decode cX5_feel 51 = .ok (.iload 5, 2) := by decide +kernel
theorem dX5_feel_53 : decode cX5_feel 53 = .ok (.invokestatic 61, 3) := by decide +kernel
theorem dX5_feel_56 : decode cX5_feel 56 = .ok (.invokestatic 67, 3) := by decide +kernel
theorem dX5_feel_59 : decode cX5_feel 59 = .ok (.aload_n 0, 1) := by decide +kernel
theorem dX5_feel_60 : decode cX5_feel 60 = .ok (.getfield 25, 3) := by decide +kernel
theorem dX5_feel_63 : decode cX5_feel 63 = .ok (.aload_n 0, 1) := by decide +kernel
theorem dX5_feel_64 : decode cX5_feel 64 = .ok (.getfield 10, 3) := by decide +kernel
theorem dX5_feel_67 : decode cX5_feel 67 = .ok (.invokevirtual 71, 3) := by decide +kernel
theorem dX5_feel_70 : decode cX5_feel 70 = .ok (.aload 4, 2) := by decide +kernel
theorem dX5_feel_72 : decode cX5_feel 72 = .ok (.iload_n 2, 1) := by decide +kernel
theorem dX5_feel_73 : decode cX5_feel 73 = .ok (.iload 5, 2) := by decide +kernel
theorem dX5_feel_75 : decode cX5_feel 75 = .ok (.iload_n 3, 1) := by decide +kernel
theorem dX5_feel_76 : decode cX5_feel 76 = .ok (.invokevirtual 75, 3) := by decide +kernel
theorem dX5_feel_79 : decode cX5_feel 79 = .ok (.iload 5, 2) := by decide +kernel
theorem dX5_feel_81 : decode cX5_feel 81 = .ok (.ireturn, 1) := by decide +kernel
theorem dX5_crawl_0 : decode cX5_crawl 0 = .ok (.aload_n 0, 1) := by decide +kernel
theorem dX5_crawl_1 : decode cX5_crawl 1 = .ok (.iload_n 1, 1) := by decide +kernel
theorem dX5_crawl_2 : decode cX5_crawl 2 = .ok (.invokevirtual 36, 3) := by decide +kernel
theorem dX5_crawl_5 : decode cX5_crawl 5 = .ok (.astore_n 3, 1) := by decide +kernel
theorem dX5_crawl_6 : decode cX5_crawl 6 = .ok (.iload_n 2, 1) := by decide +kernel
theorem dX5_crawl_7 : decode cX5_crawl 7 = .ok (.bipush (-100), 2) := by decide +kernel
theorem dX5_crawl_9 : decode cX5_crawl 9 = .ok (.if_icmp .lt 9, 3) := by decide +kernel
theorem dX5_crawl_12 : decode cX5_crawl 12 = .ok (.iload_n 2, 1) := by decide +kernel
theorem dX5_crawl_13 : decode cX5_crawl 13 = .ok (.bipush 100, 2) := by decide +kernel
theorem dX5_crawl_15 : decode cX5_crawl 15 = .ok (.if_icmp .le 13, 3) := by decide +kernel
theorem dX5_crawl_18 : decode cX5_crawl 18 = .ok (.new 44, 3) := by decide +kernel
theorem dX5_crawl_21 : decode cX5_crawl 21 = .ok (.dup, 1) := by decide +kernel
theorem dX5_crawl_22 : decode cX5_crawl 22 = .ok (.ldc 79, 2) := by decide +kernel
theorem dX5_crawl_24 : decode cX5_crawl 24 = .ok (.invokespecial 48, 3) := by decide +kernel
theorem dX5_crawl_27 : decode cX5_crawl 27 = .ok (.athrow, 1) := by decide +kernel
theorem dX5_crawl_28 : decode cX5_crawl 28 = .ok (.iload_n 2, 1) := by decide +kernel
theorem dX5_crawl_29 : decode cX5_crawl 29 = .ok (.invokestatic 61, 3) := by decide +kernel
theorem dX5_crawl_32 : decode cX5_crawl 32 = .ok (.istore 4, 2) := by decide +kernel
theorem dX5_crawl_34 : decode cX5_crawl 34 = .ok (.aload_n 3, 1) := by decide +kernel
theorem dX5_crawl_35 : decode cX5_crawl 35 = .ok (.iload 4, 2) := by decide +kernel
theorem dX5_crawl_37 : decode cX5_crawl 37 = .ok (.iload 4, 2) := by decide +kernel
theorem dX5_crawl_39 : decode cX5_crawl 39 = .ok (.invokestatic 67, 3) := by decide +kernel
theorem dX5_crawl_42 : decode cX5_crawl 42 = .ok (.aload_n 0, 1) := by decide +kernel
theorem dX5_crawl_43 : decode cX5_crawl 43 = .ok (.getfield 25, 3) := by decide +kernel
theorem dX5_crawl_46 : decode cX5_crawl 46 = .ok (.aload_n 0, 1) := by decide +kernel
theorem dX5_crawl_47 : decode cX5_crawl 47 = .ok (.getfield 10, 3) := by decide +kernel
theorem dX5_crawl_50 : decode cX5_crawl 50 = .ok (.invokevirtual 71, 3) := by decide +kernel
theorem dX5_crawl_53 : decode cX5_crawl 53 = .ok (.iload_n 2, 1) := by decide +kernel
theorem dX5_crawl_54 : decode cX5_crawl 54 = .ok (.ifCond .ge 7, 3) := by decide +kernel
theorem dX5_crawl_57 : decode cX5_crawl 57 = .ok (.iconst (-1), 1) := by decide +kernel
theorem dX5_crawl_58 : decode cX5_crawl 58 = .ok (.goto 4, 3) := by decide +kernel
theorem dX5_crawl_61 : decode cX5_crawl 61 = .ok (.iconst 1, 1) := by decide +kernel
theorem dX5_crawl_62 : decode cX5_crawl 62 = .ok (.istore 5, 2) := by decide +kernel
theorem dX5_crawl_64 : decode cX5_crawl 64 = .ok (.iconst 0, 1) := by decide +kernel
theorem dX5_crawl_65 : decode cX5_crawl 65 = .ok (.istore 6, 2) := by decide +kernel
theorem dX5_crawl_67 : decode cX5_crawl 67 = .ok (.iload 6, 2) := by decide +kernel
theorem dX5_crawl_69 : decode cX5_crawl 69 = .ok (.iload 4, 2) := by decide +kernel
theorem dX5_crawl_71 : decode cX5_crawl 71 = .ok (.if_icmp .ge 22, 3) := by decide +kernel
theorem dX5_crawl_74 : decode cX5_crawl 74 = .ok (.aload_n 3, 1) := by decide +kernel
theorem dX5_crawl_75 : decode cX5_crawl 75 = .ok (.aload_n 3, 1) := by decide +kernel
theorem dX5_crawl_76 : decode cX5_crawl 76 = .ok (.iload 5, 2) := by decide +kernel
theorem dX5_crawl_78 : decode cX5_crawl 78 = .ok (.invokevirtual 81, 3) := by decide +kernel
theorem dX5_crawl_81 : decode cX5_crawl 81 = .ok (.iload 5, 2) := by decide +kernel
theorem dX5_crawl_83 : decode cX5_crawl 83 = .ok (.iconst 1, 1) := by decide +kernel
theorem dX5_crawl_84 : decode cX5_crawl 84 = .ok (.invokevirtual 75, 3) := by decide +kernel
theorem dX5_crawl_87 : decode cX5_crawl 87 = .ok (.iinc 6 1, 3) := by decide +kernel
theorem dX5_crawl_90 : decode cX5_crawl 90 = .ok (.goto (-23), 3) := by decide +kernel
theorem dX5_crawl_93 : decode cX5_crawl 93 = .ok (.aload_n 3, 1) := by decide +kernel
theorem dX5_crawl_94 : decode cX5_crawl 94 = .ok (.getfield 84, 3) := by decide +kernel
theorem dX5_crawl_97 : decode cX5_crawl 97 = .ok (.ireturn, 1) := by decide +kernel
theorem dX5_meetMark_0 : decode cX5_meetMark 0 = .ok (.aload_n 0, 1) := by decide +kernel
theorem dX5_meetMark_1 : decode cX5_meetMark 1 = .ok (.iload_n 1, 1) := by decide +kernel
theorem dX5_meetMark_2 : decode cX5_meetMark 2 = .ok (.invokevirtual 36, 3) := by decide +kernel
theorem dX5_meetMark_5 : decode cX5_meetMark 5 = .ok (.astore_n 2, 1) := by decide +kernel
theorem dX5_meetMark_6 : decode cX5_meetMark 6 = .ok (.aload_n 0, 1) := by decide +kernel
theorem dX5_meetMark_7 : decode cX5_meetMark 7 = .ok (.getfield 25, 3) := by decide +kernel
theorem dX5_meetMark_10 : decode cX5_meetMark 10 = .ok (.aload_n 0, 1) := by decide +kernel
theorem dX5_meetMark_11 : decode cX5_meetMark 11 = .ok (.getfield 10, 3) := by decide +kernel
theorem dX5_meetMark_14 : decode cX5_meetMark 14 = .ok (.invokevirtual 71, 3) := by decide +kernel
theorem dX5_meetMark_17 : decode cX5_meetMark 17 = .ok (.aload_n 2, 1) := by decide +kernel
theorem dX5_meetMark_18 : decode cX5_meetMark 18 = .ok (.aload_n 0, 1) := by decide +kernel
theorem dX5_meetMark_19 : decode cX5_meetMark 19 = .ok (.getfield 10, 3) := by decide +kernel
theorem dX5_meetMark_22 : decode cX5_meetMark 22 = .ok (.getfield 87, 3) := by decide +kernel
theorem dX5_meetMark_25 : decode cX5_meetMark 25 = .ok (.invokevirtual 90, 3) := by decide +kernel
theorem dX5_meetMark_28 : decode cX5_meetMark 28 = .ok (.ireturn, 1) := by decide +kernel
theorem dX5_goBack_0 : decode cX5_goBack 0 = .ok (.aload_n 0, 1) := by decide +kernel
theorem dX5_goBack_1 : decode cX5_goBack 1 = .ok (.iload_n 1, 1) := by decide +kernel
theorem dX5_goBack_2 : decode cX5_goBack 2 = .ok (.invokevirtual 36, 3) := by decide +kernel
theorem dX5_goBack_5 : decode cX5_goBack 5 = .ok (.astore_n 3, 1) := by decide +kernel
theorem dX5_goBack_6 : decode cX5_goBack 6 = .ok (.iload_n 2, 1) := by decide +kernel
theorem dX5_goBack_7 : decode cX5_goBack 7 = .ok (.iconst 1, 1) := by decide +kernel
theorem dX5_goBack_8 : decode cX5_goBack 8 = .ok (.if_icmp .lt 9, 3) := by decide +kernel
theorem dX5_goBack_11 : decode cX5_goBack 11 = .ok (.iload_n 2, 1) := by decide +kernel
theorem dX5_goBack_12 : decode cX5_goBack 12 = .ok (.bipush 16, 2) := by decide +kernel
theorem dX5_goBack_14 : decode cX5_goBack 14 = .ok (.if_icmp .le 13, 3) := by decide +kernel
theorem dX5_goBack_17 : decode cX5_goBack 17 = .ok (.new 44, 3) := by decide +kernel
theorem dX5_goBack_20 : decode cX5_goBack 20 = .ok (.dup, 1) := by decide +kernel
theorem dX5_goBack_21 : decode cX5_goBack 21 = .ok (.ldc 93, 2) := by decide +kernel
theorem dX5_goBack_23 : decode cX5_goBack 23 = .ok (.invokespecial 48, 3) := by decide +kernel
theorem dX5_goBack_26 : decode cX5_goBack 26 = .ok (.athrow, 1) := by decide +kernel
theorem dX5_goBack_27 : decode cX5_goBack 27 = .ok (.aload_n 3, 1) := by decide +kernel
theorem dX5_goBack_28 : decode cX5_goBack 28 = .ok (.iload_n 2, 1) := by decide +kernel
theorem dX5_goBack_29 : decode cX5_goBack 29 = .ok (.invokevirtual 95, 3) := by decide +kernel
theorem dX5_goBack_32 : decode cX5_goBack 32 = .ok (.ifCond .ne 13, 3) := by decide +kernel
theorem dX5_goBack_35 : decode cX5_goBack 35 = .ok (.new 99, 3) := by decide +kernel
theorem dX5_goBack_38 : decode cX5_goBack 38 = .ok (.dup, 1) := by decide +kernel
theorem dX5_goBack_39 : decode cX5_goBack 39 = .ok (.ldc 101, 2) := by decide +kernel
theorem dX5_goBack_41 : decode cX5_goBack 41 = .ok (.invokespecial 103, 3) := by decide +kernel
theorem dX5_goBack_44 : decode cX5_goBack 44 = .ok (.athrow, 1) := by decide +kernel
theorem dX5_goBack_45 : decode cX5_goBack 45 = .ok (.aload_n 0, 1) := by decide +kernel
theorem dX5_goBack_46 : decode cX5_goBack 46 = .ok (.getfield 25, 3) := by decide +kernel
theorem dX5_goBack_49 : decode cX5_goBack 49 = .ok (.aload_n 0, 1) := by decide +kernel
theorem dX5_goBack_50 : decode cX5_goBack 50 = .ok (.getfield 10, 3) := by decide +kernel
theorem dX5_goBack_53 : decode cX5_goBack 53 = .ok (.invokevirtual 71, 3) := by decide +kernel
theorem dX5_goBack_56 : decode cX5_goBack 56 = .ok (.aload_n 3, 1) := by decide +kernel
theorem dX5_goBack_57 : decode cX5_goBack 57 = .ok (.iload_n 2, 1) := by decide +kernel
theorem dX5_goBack_58 : decode cX5_goBack 58 = .ok (.invokevirtual 104, 3) := by decide +kernel
theorem dX5_goBack_61 : decode cX5_goBack 61 = .ok (.aload_n 3, 1) := by decide +kernel
theorem dX5_goBack_62 : decode cX5_goBack 62 = .ok (.getfield 84, 3) := by decide +kernel
theorem dX5_goBack_65 : decode cX5_goBack 65 = .ok (.ireturn, 1) := by decide +kernel
theorem dX5_setRule_0 : decode cX5_setRule 0 = .ok (.iload_n 1, 1) := by decide +kernel
theorem dX5_setRule_1 : decode cX5_setRule 1 = .ok (.ifCond .eq 18, 3) := by decide +kernel
theorem dX5_setRule_4 : decode cX5_setRule 4 = .ok (.iload_n 1, 1) := by decide +kernel
theorem dX5_setRule_5 : decode cX5_setRule 5 = .ok (.iconst 1, 1) := by decide +kernel
theorem dX5_setRule_6 : decode cX5_setRule 6 = .ok (.if_icmp .eq 13, 3) := by decide +kernel
theorem dX5_setRule_9 : decode cX5_setRule 9 = .ok (.new 44, 3) := by decide +kernel
theorem dX5_setRule_12 : decode cX5_setRule 12 = .ok (.dup, 1) := by decide +kernel
theorem dX5_setRule_13 : decode cX5_setRule 13 = .ok (.ldc 107, 2) := by decide +kernel
theorem dX5_setRule_15 : decode cX5_setRule 15 = .ok (.invokespecial 48, 3) := by decide +kernel
theorem dX5_setRule_18 : decode cX5_setRule 18 = .ok (.athrow, 1) := by decide +kernel
theorem dX5_setRule_19 : decode cX5_setRule 19 = .ok (.aload_n 0, 1) := by decide +kernel
theorem dX5_setRule_20 : decode cX5_setRule 20 = .ok (.getfield 25, 3) := by decide +kernel
theorem dX5_setRule_23 : decode cX5_setRule 23 = .ok (.aload_n 0, 1) := by decide +kernel
theorem dX5_setRule_24 : decode cX5_setRule 24 = .ok (.getfield 10, 3) := by decide +kernel
theorem dX5_setRule_27 : decode cX5_setRule 27 = .ok (.invokevirtual 71, 3) := by decide +kernel
theorem dX5_setRule_30 : decode cX5_setRule 30 = .ok (.aload_n 0, 1) := by decide +kernel
theorem dX5_setRule_31 : decode cX5_setRule 31 = .ok (.getfield 10, 3) := by decide +kernel
theorem dX5_setRule_34 : decode cX5_setRule 34 = .ok (.getfield 51, 3) := by decide +kernel
theorem dX5_setRule_37 : decode cX5_setRule 37 = .ok (.istore_n 2, 1) := by decide +kernel
theorem dX5_setRule_38 : decode cX5_setRule 38 = .ok (.aload_n 0, 1) := by decide +kernel
theorem dX5_setRule_39 : decode cX5_setRule 39 = .ok (.getfield 10, 3) := by decide +kernel
theorem dX5_setRule_42 : decode cX5_setRule 42 = .ok (.iload_n 1, 1) := by decide +kernel
theorem dX5_setRule_43 : decode cX5_setRule 43 = .ok (.putfield 51, 3) := by decide +kernel
theorem dX5_setRule_46 : decode cX5_setRule 46 = .ok (.iload_n 2, 1) := by decide +kernel
theorem dX5_setRule_47 : decode cX5_setRule 47 = .ok (.ireturn, 1) := by decide +kernel
theorem dX5_setCounts_0 : decode cX5_setCounts 0 = .ok (.iload_n 1, 1) := by decide +kernel
theorem dX5_setCounts_1 : decode cX5_setCounts 1 = .ok (.iconst 4, 1) := by decide +kernel
theorem dX5_setCounts_2 : decode cX5_setCounts 2 = .ok (.if_icmp .lt 16, 3) := by decide +kernel
theorem dX5_setCounts_5 : decode cX5_setCounts 5 = .ok (.iload_n 1, 1) := by decide +kernel
theorem dX5_setCounts_6 : decode cX5_setCounts 6 = .ok (.sipush 400, 3) := by decide +kernel
theorem dX5_setCounts_9 : decode cX5_setCounts 9 = .ok (.if_icmp .gt 9, 3) := by decide +kernel
theorem dX5_setCounts_12 : decode cX5_setCounts 12 = .ok (.iload_n 1, 1) := by decide +kernel
theorem dX5_setCounts_13 : decode cX5_setCounts 13 = .ok (.iconst 4, 1) := by decide +kernel
theorem dX5_setCounts_14 : decode cX5_setCounts 14 = .ok (.irem, 1) := by decide +kernel
theorem dX5_setCounts_15 : decode cX5_setCounts 15 = .ok (.ifCond .eq 13, 3) := by decide +kernel
theorem dX5_setCounts_18 : decode cX5_setCounts 18 = .ok (.new 44, 3) := by decide +kernel
theorem dX5_setCounts_21 : decode cX5_setCounts 21 = .ok (.dup, 1) := by decide +kernel
theorem dX5_setCounts_22 : decode cX5_setCounts 22 = .ok (.ldc 109, 2) := by decide +kernel
theorem dX5_setCounts_24 : decode cX5_setCounts 24 = .ok (.invokespecial 48, 3) := by decide +kernel
theorem dX5_setCounts_27 : decode cX5_setCounts 27 = .ok (.athrow, 1) := by decide +kernel
theorem dX5_setCounts_28 : decode cX5_setCounts 28 = .ok (.aload_n 0, 1) := by decide +kernel
theorem dX5_setCounts_29 : decode cX5_setCounts 29 = .ok (.getfield 25, 3) := by decide +kernel
theorem dX5_setCounts_32 : decode cX5_setCounts 32 = .ok (.aload_n 0, 1) := by decide +kernel
theorem dX5_setCounts_33 : decode cX5_setCounts 33 = .ok (.getfield 10, 3) := by decide +kernel
theorem dX5_setCounts_36 : decode cX5_setCounts 36 = .ok (.invokevirtual 71, 3) := by decide +kernel
theorem dX5_setCounts_39 : decode cX5_setCounts 39 = .ok (.aload_n 0, 1) := by decide +kernel
theorem dX5_setCounts_40 : decode cX5_setCounts 40 = .ok (.getfield 10, 3) := by decide +kernel
theorem dX5_setCounts_43 : decode cX5_setCounts 43 = .ok (.getfield 87, 3) := by decide +kernel
theorem dX5_setCounts_46 : decode cX5_setCounts 46 = .ok (.istore_n 2, 1) := by decide +kernel
theorem dX5_setCounts_47 : decode cX5_setCounts 47 = .ok (.aload_n 0, 1) := by decide +kernel
theorem dX5_setCounts_48 : decode cX5_setCounts 48 = .ok (.getfield 10, 3) := by decide +kernel
theorem dX5_setCounts_51 : decode cX5_setCounts 51 = .ok (.iload_n 1, 1) := by decide +kernel
theorem dX5_setCounts_52 : decode cX5_setCounts 52 = .ok (.putfield 87, 3) := by decide +kernel
theorem dX5_setCounts_55 : decode cX5_setCounts 55 = .ok (.iload_n 2, 1) := by decide +kernel
theorem dX5_setCounts_56 : decode cX5_setCounts 56 = .ok (.ireturn, 1) := by decide +kernel
theorem dX5_type_0 : decode cX5_type 0 = .ok (.aload_n 0, 1) := by decide +kernel
theorem dX5_type_1 : decode cX5_type 1 = .ok (.getfield 32, 3) := by decide +kernel
theorem dX5_type_4 : decode cX5_type 4 = .ok (.getfield 111, 3) := by decide +kernel
theorem dX5_type_7 : decode cX5_type 7 = .ok (.bipush 80, 2) := by decide +kernel
theorem dX5_type_9 : decode cX5_type 9 = .ok (.if_icmp .lt 13, 3) := by decide +kernel
theorem dX5_type_12 : decode cX5_type 12 = .ok (.new 99, 3) := by decide +kernel
theorem dX5_type_15 : decode cX5_type 15 = .ok (.dup, 1) := by decide +kernel
theorem dX5_type_16 : decode cX5_type 16 = .ok (.ldc 114, 2) := by decide +kernel
theorem dX5_type_18 : decode cX5_type 18 = .ok (.invokespecial 103, 3) := by decide +kernel
theorem dX5_type_21 : decode cX5_type 21 = .ok (.athrow, 1) := by decide +kernel
theorem dX5_type_22 : decode cX5_type 22 = .ok (.aload_n 0, 1) := by decide +kernel
theorem dX5_type_23 : decode cX5_type 23 = .ok (.getfield 32, 3) := by decide +kernel
theorem dX5_type_26 : decode cX5_type 26 = .ok (.iload_n 1, 1) := by decide +kernel
theorem dX5_type_27 : decode cX5_type 27 = .ok (.invokevirtual 116, 3) := by decide +kernel
theorem dX5_type_30 : decode cX5_type 30 = .ok (.aload_n 0, 1) := by decide +kernel
theorem dX5_type_31 : decode cX5_type 31 = .ok (.getfield 32, 3) := by decide +kernel
theorem dX5_type_34 : decode cX5_type 34 = .ok (.getfield 111, 3) := by decide +kernel
theorem dX5_type_37 : decode cX5_type 37 = .ok (.ireturn, 1) := by decide +kernel
theorem dX5_clearText_0 : decode cX5_clearText 0 = .ok (.aload_n 0, 1) := by decide +kernel
theorem dX5_clearText_1 : decode cX5_clearText 1 = .ok (.getfield 32, 3) := by decide +kernel
theorem dX5_clearText_4 : decode cX5_clearText 4 = .ok (.getfield 111, 3) := by decide +kernel
theorem dX5_clearText_7 : decode cX5_clearText 7 = .ok (.istore_n 1, 1) := by decide +kernel
theorem dX5_clearText_8 : decode cX5_clearText 8 = .ok (.aload_n 0, 1) := by decide +kernel
theorem dX5_clearText_9 : decode cX5_clearText 9 = .ok (.getfield 32, 3) := by decide +kernel
theorem dX5_clearText_12 : decode cX5_clearText 12 = .ok (.iconst 0, 1) := by decide +kernel
theorem dX5_clearText_13 : decode cX5_clearText 13 = .ok (.putfield 111, 3) := by decide +kernel
theorem dX5_clearText_16 : decode cX5_clearText 16 = .ok (.iload_n 1, 1) := by decide +kernel
theorem dX5_clearText_17 : decode cX5_clearText 17 = .ok (.ireturn, 1) := by decide +kernel
theorem dX5_textError_0 : decode cX5_textError 0 = .ok (.aload_n 0, 1) := by decide +kernel
theorem dX5_textError_1 : decode cX5_textError 1 = .ok (.getfield 32, 3) := by decide +kernel
theorem dX5_textError_4 : decode cX5_textError 4 = .ok (.invokevirtual 120, 3) := by decide +kernel
theorem dX5_textError_7 : decode cX5_textError 7 = .ok (.ireturn, 1) := by decide +kernel
theorem dX5_impossibleOrder_0 : decode cX5_impossibleOrder 0 = .ok (.aload_n 0, 1) := by decide +kernel
theorem dX5_impossibleOrder_1 : decode cX5_impossibleOrder 1 = .ok (.invokevirtual 124, 3) := by decide +kernel
theorem dX5_impossibleOrder_4 : decode cX5_impossibleOrder 4 = .ok (.aload_n 0, 1) := by decide +kernel
theorem dX5_impossibleOrder_5 : decode cX5_impossibleOrder 5 = .ok (.getfield 16, 3) := by decide +kernel
theorem dX5_impossibleOrder_8 : decode cX5_impossibleOrder 8 = .ok (.aload_n 0, 1) := by decide +kernel
theorem dX5_impossibleOrder_9 : decode cX5_impossibleOrder 9 = .ok (.getfield 10, 3) := by decide +kernel
theorem dX5_impossibleOrder_12 : decode cX5_impossibleOrder 12 = .ok (.invokevirtual 127, 3) := by decide +kernel
theorem dX5_impossibleOrder_15 : decode cX5_impossibleOrder 15 = .ok (.aload_n 0, 1) := by decide +kernel
theorem dX5_impossibleOrder_16 : decode cX5_impossibleOrder 16 = .ok (.aload_n 0, 1) := by decide +kernel
theorem dX5_impossibleOrder_17 : decode cX5_impossibleOrder 17 = .ok (.getfield 16, 3) := by decide +kernel
theorem dX5_impossibleOrder_20 : decode cX5_impossibleOrder 20 = .ok (.invokevirtual 130, 3) := by decide +kernel
theorem dX5_impossibleOrder_23 : decode cX5_impossibleOrder 23 = .ok (.ireturn, 1) := by decide +kernel
theorem dX5_carryOut_0 : decode cX5_carryOut 0 = .ok (.aload_n 0, 1) := by decide +kernel
theorem dX5_carryOut_1 : decode cX5_carryOut 1 = .ok (.invokevirtual 124, 3) := by decide +kernel
theorem dX5_carryOut_4 : decode cX5_carryOut 4 = .ok (.aload_n 0, 1) := by decide +kernel
theorem dX5_carryOut_5 : decode cX5_carryOut 5 = .ok (.getfield 16, 3) := by decide +kernel
theorem dX5_carryOut_8 : decode cX5_carryOut 8 = .ok (.aload_n 0, 1) := by decide +kernel
theorem dX5_carryOut_9 : decode cX5_carryOut 9 = .ok (.getfield 10, 3) := by decide +kernel
theorem dX5_carryOut_12 : decode cX5_carryOut 12 = .ok (.invokevirtual 127, 3) := by decide +kernel
theorem dX5_carryOut_15 : decode cX5_carryOut 15 = .ok (.aload_n 0, 1) := by decide +kernel
theorem dX5_carryOut_16 : decode cX5_carryOut 16 = .ok (.aload_n 0, 1) := by decide +kernel
theorem dX5_carryOut_17 : decode cX5_carryOut 17 = .ok (.getfield 16, 3) := by decide +kernel
theorem dX5_carryOut_20 : decode cX5_carryOut 20 = .ok (.invokevirtual 130, 3) := by decide +kernel
theorem dX5_carryOut_23 : decode cX5_carryOut 23 = .ok (.iconst (-1), 1) := by decide +kernel
theorem dX5_carryOut_24 : decode cX5_carryOut 24 = .ok (.if_icmp .eq 13, 3) := by decide +kernel
theorem dX5_carryOut_27 : decode cX5_carryOut 27 = .ok (.new 99, 3) := by decide +kernel
theorem dX5_carryOut_30 : decode cX5_carryOut 30 = .ok (.dup, 1) := by decide +kernel
theorem dX5_carryOut_31 : decode cX5_carryOut 31 = .ok (.ldc 134, 2) := by decide +kernel
theorem dX5_carryOut_33 : decode cX5_carryOut 33 = .ok (.invokespecial 103, 3) := by decide +kernel
theorem dX5_carryOut_36 : decode cX5_carryOut 36 = .ok (.athrow, 1) := by decide +kernel
theorem dX5_carryOut_37 : decode cX5_carryOut 37 = .ok (.aload_n 0, 1) := by decide +kernel
theorem dX5_carryOut_38 : decode cX5_carryOut 38 = .ok (.getfield 25, 3) := by decide +kernel
theorem dX5_carryOut_41 : decode cX5_carryOut 41 = .ok (.aload_n 0, 1) := by decide +kernel
theorem dX5_carryOut_42 : decode cX5_carryOut 42 = .ok (.getfield 10, 3) := by decide +kernel
theorem dX5_carryOut_45 : decode cX5_carryOut 45 = .ok (.invokevirtual 71, 3) := by decide +kernel
theorem dX5_carryOut_48 : decode cX5_carryOut 48 = .ok (.aload_n 0, 1) := by decide +kernel
theorem dX5_carryOut_49 : decode cX5_carryOut 49 = .ok (.getfield 10, 3) := by decide +kernel
theorem dX5_carryOut_52 : decode cX5_carryOut 52 = .ok (.aload_n 0, 1) := by decide +kernel
theorem dX5_carryOut_53 : decode cX5_carryOut 53 = .ok (.getfield 16, 3) := by decide +kernel
theorem dX5_carryOut_56 : decode cX5_carryOut 56 = .ok (.invokevirtual 127, 3) := by decide +kernel
theorem dX5_carryOut_59 : decode cX5_carryOut 59 = .ok (.aload_n 0, 1) := by decide +kernel
theorem dX5_carryOut_60 : decode cX5_carryOut 60 = .ok (.getfield 32, 3) := by decide +kernel
theorem dX5_carryOut_63 : decode cX5_carryOut 63 = .ok (.invokevirtual 136, 3) := by decide +kernel
theorem dX5_carryOut_66 : decode cX5_carryOut 66 = .ok (.ireturn, 1) := by decide +kernel
theorem dX5_undo_0 : decode cX5_undo 0 = .ok (.aload_n 0, 1) := by decide +kernel
theorem dX5_undo_1 : decode cX5_undo 1 = .ok (.getfield 25, 3) := by decide +kernel
theorem dX5_undo_4 : decode cX5_undo 4 = .ok (.getfield 139, 3) := by decide +kernel
theorem dX5_undo_7 : decode cX5_undo 7 = .ok (.iconst 1, 1) := by decide +kernel
theorem dX5_undo_8 : decode cX5_undo 8 = .ok (.if_icmp .ge 13, 3) := by decide +kernel
theorem dX5_undo_11 : decode cX5_undo 11 = .ok (.new 99, 3) := by decide +kernel
theorem dX5_undo_14 : decode cX5_undo 14 = .ok (.dup, 1) := by decide +kernel
theorem dX5_undo_15 : decode cX5_undo 15 = .ok (.ldc 140, 2) := by decide +kernel
theorem dX5_undo_17 : decode cX5_undo 17 = .ok (.invokespecial 103, 3) := by decide +kernel
theorem dX5_undo_20 : decode cX5_undo 20 = .ok (.athrow, 1) := by decide +kernel
theorem dX5_undo_21 : decode cX5_undo 21 = .ok (.aload_n 0, 1) := by decide +kernel
theorem dX5_undo_22 : decode cX5_undo 22 = .ok (.getfield 25, 3) := by decide +kernel
theorem dX5_undo_25 : decode cX5_undo 25 = .ok (.aload_n 0, 1) := by decide +kernel
theorem dX5_undo_26 : decode cX5_undo 26 = .ok (.getfield 10, 3) := by decide +kernel
theorem dX5_undo_29 : decode cX5_undo 29 = .ok (.invokevirtual 142, 3) := by decide +kernel
theorem dX5_undo_32 : decode cX5_undo 32 = .ok (.aload_n 0, 1) := by decide +kernel
theorem dX5_undo_33 : decode cX5_undo 33 = .ok (.getfield 25, 3) := by decide +kernel
theorem dX5_undo_36 : decode cX5_undo 36 = .ok (.getfield 139, 3) := by decide +kernel
theorem dX5_undo_39 : decode cX5_undo 39 = .ok (.ireturn, 1) := by decide +kernel
theorem dX5_takeSnapshot_0 : decode cX5_takeSnapshot 0 = .ok (.aload_n 0, 1) := by decide +kernel
theorem dX5_takeSnapshot_1 : decode cX5_takeSnapshot 1 = .ok (.getfield 19, 3) := by decide +kernel
theorem dX5_takeSnapshot_4 : decode cX5_takeSnapshot 4 = .ok (.aload_n 0, 1) := by decide +kernel
theorem dX5_takeSnapshot_5 : decode cX5_takeSnapshot 5 = .ok (.getfield 10, 3) := by decide +kernel
theorem dX5_takeSnapshot_8 : decode cX5_takeSnapshot 8 = .ok (.invokevirtual 127, 3) := by decide +kernel
theorem dX5_takeSnapshot_11 : decode cX5_takeSnapshot 11 = .ok (.aload_n 0, 1) := by decide +kernel
theorem dX5_takeSnapshot_12 : decode cX5_takeSnapshot 12 = .ok (.iconst 1, 1) := by decide +kernel
theorem dX5_takeSnapshot_13 : decode cX5_takeSnapshot 13 = .ok (.putfield 145, 3) := by decide +kernel
theorem dX5_takeSnapshot_16 : decode cX5_takeSnapshot 16 = .ok (.aload_n 0, 1) := by decide +kernel
theorem dX5_takeSnapshot_17 : decode cX5_takeSnapshot 17 = .ok (.getfield 10, 3) := by decide +kernel
theorem dX5_takeSnapshot_20 : decode cX5_takeSnapshot 20 = .ok (.invokevirtual 149, 3) := by decide +kernel
theorem dX5_takeSnapshot_23 : decode cX5_takeSnapshot 23 = .ok (.ireturn, 1) := by decide +kernel
theorem dX5_restoreSnapshot_0 : decode cX5_restoreSnapshot 0 = .ok (.aload_n 0, 1) := by decide +kernel
theorem dX5_restoreSnapshot_1 : decode cX5_restoreSnapshot 1 = .ok (.getfield 145, 3) := by decide +kernel
theorem dX5_restoreSnapshot_4 : decode cX5_restoreSnapshot 4 = .ok (.ifCond .ne 13, 3) := by decide +kernel
theorem dX5_restoreSnapshot_7 : decode cX5_restoreSnapshot 7 = .ok (.new 99, 3) := by decide +kernel
theorem dX5_restoreSnapshot_10 : decode cX5_restoreSnapshot 10 = .ok (.dup, 1) := by decide +kernel
theorem dX5_restoreSnapshot_11 : decode cX5_restoreSnapshot 11 = .ok (.ldc 152, 2) := by decide +kernel
theorem dX5_restoreSnapshot_13 : decode cX5_restoreSnapshot 13 = .ok (.invokespecial 103, 3) := by decide +kernel
theorem dX5_restoreSnapshot_16 : decode cX5_restoreSnapshot 16 = .ok (.athrow, 1) := by decide +kernel
theorem dX5_restoreSnapshot_17 : decode cX5_restoreSnapshot 17 = .ok (.aload_n 0, 1) := by decide +kernel
theorem dX5_restoreSnapshot_18 : decode cX5_restoreSnapshot 18 = .ok (.getfield 25, 3) := by decide +kernel
theorem dX5_restoreSnapshot_21 : decode cX5_restoreSnapshot 21 = .ok (.aload_n 0, 1) := by decide +kernel
theorem dX5_restoreSnapshot_22 : decode cX5_restoreSnapshot 22 = .ok (.getfield 10, 3) := by decide +kernel
theorem dX5_restoreSnapshot_25 : decode cX5_restoreSnapshot 25 = .ok (.invokevirtual 71, 3) := by decide +kernel
theorem dX5_restoreSnapshot_28 : decode cX5_restoreSnapshot 28 = .ok (.aload_n 0, 1) := by decide +kernel
theorem dX5_restoreSnapshot_29 : decode cX5_restoreSnapshot 29 = .ok (.getfield 10, 3) := by decide +kernel
theorem dX5_restoreSnapshot_32 : decode cX5_restoreSnapshot 32 = .ok (.aload_n 0, 1) := by decide +kernel
theorem dX5_restoreSnapshot_33 : decode cX5_restoreSnapshot 33 = .ok (.getfield 19, 3) := by decide +kernel
theorem dX5_restoreSnapshot_36 : decode cX5_restoreSnapshot 36 = .ok (.invokevirtual 127, 3) := by decide +kernel
theorem dX5_restoreSnapshot_39 : decode cX5_restoreSnapshot 39 = .ok (.aload_n 0, 1) := by decide +kernel
theorem dX5_restoreSnapshot_40 : decode cX5_restoreSnapshot 40 = .ok (.getfield 10, 3) := by decide +kernel
theorem dX5_restoreSnapshot_43 : decode cX5_restoreSnapshot 43 = .ok (.invokevirtual 149, 3) := by decide +kernel
theorem dX5_restoreSnapshot_46 : decode cX5_restoreSnapshot 46 = .ok (.ireturn, 1) := by decide +kernel
theorem dX5_stateOf_0 : decode cX5_stateOf 0 = .ok (.aload_n 0, 1) := by decide +kernel
theorem dX5_stateOf_1 : decode cX5_stateOf 1 = .ok (.iload_n 1, 1) := by decide +kernel
theorem dX5_stateOf_2 : decode cX5_stateOf 2 = .ok (.invokevirtual 36, 3) := by decide +kernel
theorem dX5_stateOf_5 : decode cX5_stateOf 5 = .ok (.getfield 154, 3) := by decide +kernel
theorem dX5_stateOf_8 : decode cX5_stateOf 8 = .ok (.ireturn, 1) := by decide +kernel
theorem dX5_positionOf_0 : decode cX5_positionOf 0 = .ok (.aload_n 0, 1) := by decide +kernel
theorem dX5_positionOf_1 : decode cX5_positionOf 1 = .ok (.iload_n 1, 1) := by decide +kernel
theorem dX5_positionOf_2 : decode cX5_positionOf 2 = .ok (.invokevirtual 36, 3) := by decide +kernel
theorem dX5_positionOf_5 : decode cX5_positionOf 5 = .ok (.getfield 84, 3) := by decide +kernel
theorem dX5_positionOf_8 : decode cX5_positionOf 8 = .ok (.ireturn, 1) := by decide +kernel
theorem dX5_positionByTracks_0 : decode cX5_positionByTracks 0 = .ok (.aload_n 0, 1) := by decide +kernel
theorem dX5_positionByTracks_1 : decode cX5_positionByTracks 1 = .ok (.iload_n 1, 1) := by decide +kernel
theorem dX5_positionByTracks_2 : decode cX5_positionByTracks 2 = .ok (.invokevirtual 36, 3) := by decide +kernel
theorem dX5_positionByTracks_5 : decode cX5_positionByTracks 5 = .ok (.astore_n 2, 1) := by decide +kernel
theorem dX5_positionByTracks_6 : decode cX5_positionByTracks 6 = .ok (.aload_n 2, 1) := by decide +kernel
theorem dX5_positionByTracks_7 : decode cX5_positionByTracks 7 = .ok (.getfield 157, 3) := by decide +kernel
theorem dX5_positionByTracks_10 : decode cX5_positionByTracks 10 = .ok (.aload_n 2, 1) := by decide +kernel
theorem dX5_positionByTracks_11 : decode cX5_positionByTracks 11 = .ok (.getfield 160, 3) := by decide +kernel
theorem dX5_positionByTracks_14 : decode cX5_positionByTracks 14 = .ok (.iadd, 1) := by decide +kernel
theorem dX5_positionByTracks_15 : decode cX5_positionByTracks 15 = .ok (.aload_n 2, 1) := by decide +kernel
theorem dX5_positionByTracks_16 : decode cX5_positionByTracks 16 = .ok (.getfield 163, 3) := by decide +kernel
theorem dX5_positionByTracks_19 : decode cX5_positionByTracks 19 = .ok (.iadd, 1) := by decide +kernel
theorem dX5_positionByTracks_20 : decode cX5_positionByTracks 20 = .ok (.aload_n 2, 1) := by decide +kernel
theorem dX5_positionByTracks_21 : decode cX5_positionByTracks 21 = .ok (.getfield 166, 3) := by decide +kernel
theorem dX5_positionByTracks_24 : decode cX5_positionByTracks 24 = .ok (.isub, 1) := by decide +kernel
theorem dX5_positionByTracks_25 : decode cX5_positionByTracks 25 = .ok (.ireturn, 1) := by decide +kernel
theorem dX5_turnsOf_0 : decode cX5_turnsOf 0 = .ok (.aload_n 0, 1) := by decide +kernel
theorem dX5_turnsOf_1 : decode cX5_turnsOf 1 = .ok (.iload_n 1, 1) := by decide +kernel
theorem dX5_turnsOf_2 : decode cX5_turnsOf 2 = .ok (.invokevirtual 36, 3) := by decide +kernel
theorem dX5_turnsOf_5 : decode cX5_turnsOf 5 = .ok (.aload_n 0, 1) := by decide +kernel
theorem dX5_turnsOf_6 : decode cX5_turnsOf 6 = .ok (.getfield 10, 3) := by decide +kernel
theorem dX5_turnsOf_9 : decode cX5_turnsOf 9 = .ok (.getfield 87, 3) := by decide +kernel
theorem dX5_turnsOf_12 : decode cX5_turnsOf 12 = .ok (.invokevirtual 169, 3) := by decide +kernel
theorem dX5_turnsOf_15 : decode cX5_turnsOf 15 = .ok (.ireturn, 1) := by decide +kernel
theorem dX5_placeOf_0 : decode cX5_placeOf 0 = .ok (.aload_n 0, 1) := by decide +kernel
theorem dX5_placeOf_1 : decode cX5_placeOf 1 = .ok (.iload_n 1, 1) := by decide +kernel
theorem dX5_placeOf_2 : decode cX5_placeOf 2 = .ok (.invokevirtual 36, 3) := by decide +kernel
theorem dX5_placeOf_5 : decode cX5_placeOf 5 = .ok (.aload_n 0, 1) := by decide +kernel
theorem dX5_placeOf_6 : decode cX5_placeOf 6 = .ok (.getfield 10, 3) := by decide +kernel
theorem dX5_placeOf_9 : decode cX5_placeOf 9 = .ok (.getfield 87, 3) := by decide +kernel
theorem dX5_placeOf_12 : decode cX5_placeOf 12 = .ok (.invokevirtual 172, 3) := by decide +kernel
theorem dX5_placeOf_15 : decode cX5_placeOf 15 = .ok (.ireturn, 1) := by decide +kernel
theorem dX5_directionOf_0 : decode cX5_directionOf 0 = .ok (.aload_n 0, 1) := by decide +kernel
theorem dX5_directionOf_1 : decode cX5_directionOf 1 = .ok (.iload_n 1, 1) := by decide +kernel
theorem dX5_directionOf_2 : decode cX5_directionOf 2 = .ok (.invokevirtual 36, 3) := by decide +kernel
theorem dX5_directionOf_5 : decode cX5_directionOf 5 = .ok (.getfield 175, 3) := by decide +kernel
theorem dX5_directionOf_8 : decode cX5_directionOf 8 = .ok (.ireturn, 1) := by decide +kernel
theorem dX5_countOfA_0 : decode cX5_countOfA 0 = .ok (.aload_n 0, 1) := by decide +kernel
theorem dX5_countOfA_1 : decode cX5_countOfA 1 = .ok (.iload_n 1, 1) := by decide +kernel
theorem dX5_countOfA_2 : decode cX5_countOfA 2 = .ok (.invokevirtual 36, 3) := by decide +kernel
theorem dX5_countOfA_5 : decode cX5_countOfA 5 = .ok (.getfield 157, 3) := by decide +kernel
theorem dX5_countOfA_8 : decode cX5_countOfA 8 = .ok (.ireturn, 1) := by decide +kernel
theorem dX5_leader_0 : decode cX5_leader 0 = .ok (.iconst 0, 1) := by decide +kernel
theorem dX5_leader_1 : decode cX5_leader 1 = .ok (.istore_n 1, 1) := by decide +kernel
theorem dX5_leader_2 : decode cX5_leader 2 = .ok (.iconst 1, 1) := by decide +kernel
theorem dX5_leader_3 : decode cX5_leader 3 = .ok (.istore_n 2, 1) := by decide +kernel
theorem dX5_leader_4 : decode cX5_leader 4 = .ok (.iload_n 2, 1) := by decide +kernel
theorem dX5_leader_5 : decode cX5_leader 5 = .ok (.iconst 4, 1) := by decide +kernel
theorem dX5_leader_6 : decode cX5_leader 6 = .ok (.if_icmp .ge 36, 3) := by decide +kernel
theorem dX5_leader_9 : decode cX5_leader 9 = .ok (.aload_n 0, 1) := by decide +kernel
theorem dX5_leader_10 : decode cX5_leader 10 = .ok (.getfield 10, 3) := by decide +kernel
theorem dX5_leader_13 : decode cX5_leader 13 = .ok (.iload_n 2, 1) := by decide +kernel
theorem dX5_leader_14 : decode cX5_leader 14 = .ok (.invokevirtual 178, 3) := by decide +kernel
theorem dX5_leader_17 : decode cX5_leader 17 = .ok (.getfield 84, 3) := by decide +kernel
theorem dX5_leader_20 : decode cX5_leader 20 = .ok (.aload_n 0, 1) := by decide +kernel
theorem dX5_leader_21 : decode cX5_leader 21 = .ok (.getfield 10, 3) := by decide +kernel
theorem dX5_leader_24 : decode cX5_leader 24 = .ok (.iload_n 1, 1) := by decide +kernel
theorem dX5_leader_25 : decode cX5_leader 25 = .ok (.invokevirtual 178, 3) := by decide +kernel
theorem dX5_leader_28 : decode cX5_leader 28 = .ok (.getfield 84, 3) := by decide +kernel
theorem dX5_leader_31 : decode cX5_leader 31 = .ok (.if_icmp .le 5, 3) := by decide +kernel
theorem dX5_leader_34 : decode cX5_leader 34 = .ok (.iload_n 2, 1) := by decide +kernel
theorem dX5_leader_35 : decode cX5_leader 35 = .ok (.istore_n 1, 1) := by decide +kernel
theorem dX5_leader_36 : decode cX5_leader 36 = .ok (.iinc 2 1, 3) := by decide +kernel
theorem dX5_leader_39 : decode cX5_leader 39 = .ok (.goto (-35), 3) := by decide +kernel
theorem dX5_leader_42 : decode cX5_leader 42 = .ok (.iload_n 1, 1) := by decide +kernel
theorem dX5_leader_43 : decode cX5_leader 43 = .ok (.ireturn, 1) := by decide +kernel
theorem dX5_stepTo_0 : decode cX5_stepTo 0 = .ok (.aload_n 0, 1) := by decide +kernel
theorem dX5_stepTo_1 : decode cX5_stepTo 1 = .ok (.iload_n 1, 1) := by decide +kernel
theorem dX5_stepTo_2 : decode cX5_stepTo 2 = .ok (.invokevirtual 36, 3) := by decide +kernel
theorem dX5_stepTo_5 : decode cX5_stepTo 5 = .ok (.astore_n 3, 1) := by decide +kernel
theorem dX5_stepTo_6 : decode cX5_stepTo 6 = .ok (.iload_n 2, 1) := by decide +kernel
theorem dX5_stepTo_7 : decode cX5_stepTo 7 = .ok (.invokestatic 40, 3) := by decide +kernel
theorem dX5_stepTo_10 : decode cX5_stepTo 10 = .ok (.aload_n 3, 1) := by decide +kernel
theorem dX5_stepTo_11 : decode cX5_stepTo 11 = .ok (.aload_n 0, 1) := by decide +kernel
theorem dX5_stepTo_12 : decode cX5_stepTo 12 = .ok (.getfield 10, 3) := by decide +kernel
theorem dX5_stepTo_15 : decode cX5_stepTo 15 = .ok (.getfield 51, 3) := by decide +kernel
theorem dX5_stepTo_18 : decode cX5_stepTo 18 = .ok (.iload_n 2, 1) := by decide +kernel
theorem dX5_stepTo_19 : decode cX5_stepTo 19 = .ok (.invokevirtual 55, 3) := by decide +kernel
theorem dX5_stepTo_22 : decode cX5_stepTo 22 = .ok (.ireturn, 1) := by decide +kernel
theorem dX5_logLength_0 : decode cX5_logLength 0 = .ok (.aload_n 0, 1) := by decide +kernel
theorem dX5_logLength_1 : decode cX5_logLength 1 = .ok (.iload_n 1, 1) := by decide +kernel
theorem dX5_logLength_2 : decode cX5_logLength 2 = .ok (.invokevirtual 36, 3) := by decide +kernel
theorem dX5_logLength_5 : decode cX5_logLength 5 = .ok (.getfield 181, 3) := by decide +kernel
theorem dX5_logLength_8 : decode cX5_logLength 8 = .ok (.getfield 185, 3) := by decide +kernel
theorem dX5_logLength_11 : decode cX5_logLength 11 = .ok (.ireturn, 1) := by decide +kernel
theorem dX5_loggedStep_0 : decode cX5_loggedStep 0 = .ok (.aload_n 0, 1) := by decide +kernel
theorem dX5_loggedStep_1 : decode cX5_loggedStep 1 = .ok (.iload_n 1, 1) := by decide +kernel
theorem dX5_loggedStep_2 : decode cX5_loggedStep 2 = .ok (.invokevirtual 36, 3) := by decide +kernel
theorem dX5_loggedStep_5 : decode cX5_loggedStep 5 = .ok (.astore_n 3, 1) := by decide +kernel
theorem dX5_loggedStep_6 : decode cX5_loggedStep 6 = .ok (.iload_n 2, 1) := by decide +kernel
theorem dX5_loggedStep_7 : decode cX5_loggedStep 7 = .ok (.ifCond .lt 14, 3) := by decide +kernel
theorem dX5_loggedStep_10 : decode cX5_loggedStep 10 = .ok (.iload_n 2, 1) := by decide +kernel
theorem dX5_loggedStep_11 : decode cX5_loggedStep 11 = .ok (.aload_n 3, 1) := by decide +kernel
theorem dX5_loggedStep_12 : decode cX5_loggedStep 12 = .ok (.getfield 181, 3) := by decide +kernel
theorem dX5_loggedStep_15 : decode cX5_loggedStep 15 = .ok (.getfield 185, 3) := by decide +kernel
theorem dX5_loggedStep_18 : decode cX5_loggedStep 18 = .ok (.if_icmp .lt 13, 3) := by decide +kernel
theorem dX5_loggedStep_21 : decode cX5_loggedStep 21 = .ok (.new 188, 3) := by decide +kernel
theorem dX5_loggedStep_24 : decode cX5_loggedStep 24 = .ok (.dup, 1) := by decide +kernel
theorem dX5_loggedStep_25 : decode cX5_loggedStep 25 = .ok (.ldc 190, 2) := by decide +kernel
theorem dX5_loggedStep_27 : decode cX5_loggedStep 27 = .ok (.invokespecial 192, 3) := by decide +kernel
theorem dX5_loggedStep_30 : decode cX5_loggedStep 30 = .ok (.athrow, 1) := by decide +kernel
theorem dX5_loggedStep_31 : decode cX5_loggedStep 31 = .ok (.aload_n 3, 1) := by decide +kernel
theorem dX5_loggedStep_32 : decode cX5_loggedStep 32 = .ok (.getfield 181, 3) := by decide +kernel
theorem dX5_loggedStep_35 : decode cX5_loggedStep 35 = .ok (.iload_n 2, 1) := by decide +kernel
theorem dX5_loggedStep_36 : decode cX5_loggedStep 36 = .ok (.invokevirtual 193, 3) := by decide +kernel
theorem dX5_loggedStep_39 : decode cX5_loggedStep 39 = .ok (.ireturn, 1) := by decide +kernel
theorem dX5_speedOf_0 : decode cX5_speedOf 0 = .ok (.aload_n 0, 1) := by decide +kernel
theorem dX5_speedOf_1 : decode cX5_speedOf 1 = .ok (.iload_n 1, 1) := by decide +kernel
theorem dX5_speedOf_2 : decode cX5_speedOf 2 = .ok (.invokevirtual 36, 3) := by decide +kernel
theorem dX5_speedOf_5 : decode cX5_speedOf 5 = .ok (.getfield 181, 3) := by decide +kernel
theorem dX5_speedOf_8 : decode cX5_speedOf 8 = .ok (.invokevirtual 196, 3) := by decide +kernel
theorem dX5_speedOf_11 : decode cX5_speedOf 11 = .ok (.dreturn, 1) := by decide +kernel
theorem dX5_errorsOf_0 : decode cX5_errorsOf 0 = .ok (.aload_n 0, 1) := by decide +kernel
theorem dX5_errorsOf_1 : decode cX5_errorsOf 1 = .ok (.iload_n 1, 1) := by decide +kernel
theorem dX5_errorsOf_2 : decode cX5_errorsOf 2 = .ok (.invokevirtual 36, 3) := by decide +kernel
theorem dX5_errorsOf_5 : decode cX5_errorsOf 5 = .ok (.getfield 200, 3) := by decide +kernel
theorem dX5_errorsOf_8 : decode cX5_errorsOf 8 = .ok (.ireturn, 1) := by decide +kernel
theorem dX5_slipsOf_0 : decode cX5_slipsOf 0 = .ok (.aload_n 0, 1) := by decide +kernel
theorem dX5_slipsOf_1 : decode cX5_slipsOf 1 = .ok (.iload_n 1, 1) := by decide +kernel
theorem dX5_slipsOf_2 : decode cX5_slipsOf 2 = .ok (.invokevirtual 36, 3) := by decide +kernel
theorem dX5_slipsOf_5 : decode cX5_slipsOf 5 = .ok (.getfield 203, 3) := by decide +kernel
theorem dX5_slipsOf_8 : decode cX5_slipsOf 8 = .ok (.ireturn, 1) := by decide +kernel
theorem dX5_distanceOf_0 : decode cX5_distanceOf 0 = .ok (.aload_n 0, 1) := by decide +kernel
theorem dX5_distanceOf_1 : decode cX5_distanceOf 1 = .ok (.iload_n 1, 1) := by decide +kernel
theorem dX5_distanceOf_2 : decode cX5_distanceOf 2 = .ok (.invokevirtual 36, 3) := by decide +kernel
theorem dX5_distanceOf_5 : decode cX5_distanceOf 5 = .ok (.getfield 206, 3) := by decide +kernel
theorem dX5_distanceOf_8 : decode cX5_distanceOf 8 = .ok (.ireturn, 1) := by decide +kernel
theorem dX5_ticksOf_0 : decode cX5_ticksOf 0 = .ok (.aload_n 0, 1) := by decide +kernel
theorem dX5_ticksOf_1 : decode cX5_ticksOf 1 = .ok (.iload_n 1, 1) := by decide +kernel
theorem dX5_ticksOf_2 : decode cX5_ticksOf 2 = .ok (.invokevirtual 36, 3) := by decide +kernel
theorem dX5_ticksOf_5 : decode cX5_ticksOf 5 = .ok (.getfield 209, 3) := by decide +kernel
theorem dX5_ticksOf_8 : decode cX5_ticksOf 8 = .ok (.ireturn, 1) := by decide +kernel
theorem dX5_counts_0 : decode cX5_counts 0 = .ok (.aload_n 0, 1) := by decide +kernel
theorem dX5_counts_1 : decode cX5_counts 1 = .ok (.getfield 10, 3) := by decide +kernel
theorem dX5_counts_4 : decode cX5_counts 4 = .ok (.getfield 87, 3) := by decide +kernel
theorem dX5_counts_7 : decode cX5_counts 7 = .ok (.ireturn, 1) := by decide +kernel
theorem dX5_rule_0 : decode cX5_rule 0 = .ok (.aload_n 0, 1) := by decide +kernel
theorem dX5_rule_1 : decode cX5_rule 1 = .ok (.getfield 10, 3) := by decide +kernel
theorem dX5_rule_4 : decode cX5_rule 4 = .ok (.getfield 51, 3) := by decide +kernel
theorem dX5_rule_7 : decode cX5_rule 7 = .ok (.ireturn, 1) := by decide +kernel
theorem dX5_recordedStates_0 : decode cX5_recordedStates 0 = .ok (.aload_n 0, 1) := by decide +kernel
theorem dX5_recordedStates_1 : decode cX5_recordedStates 1 = .ok (.getfield 25, 3) := by decide +kernel
theorem dX5_recordedStates_4 : decode cX5_recordedStates 4 = .ok (.getfield 139, 3) := by decide +kernel
theorem dX5_recordedStates_7 : decode cX5_recordedStates 7 = .ok (.ireturn, 1) := by decide +kernel
theorem dX5_snailNumbered_0 : decode cX5_snailNumbered 0 = .ok (.iload_n 1, 1) := by decide +kernel
theorem dX5_snailNumbered_1 : decode cX5_snailNumbered 1 = .ok (.ifCond .lt 8, 3) := by decide +kernel
theorem dX5_snailNumbered_4 : decode cX5_snailNumbered 4 = .ok (.iload_n 1, 1) := by decide +kernel
theorem dX5_snailNumbered_5 : decode cX5_snailNumbered 5 = .ok (.iconst 4, 1) := by decide +kernel
theorem dX5_snailNumbered_6 : decode cX5_snailNumbered 6 = .ok (.if_icmp .lt 13, 3) := by decide +kernel
theorem dX5_snailNumbered_9 : decode cX5_snailNumbered 9 = .ok (.new 188, 3) := by decide +kernel
theorem dX5_snailNumbered_12 : decode cX5_snailNumbered 12 = .ok (.dup, 1) := by decide +kernel
theorem dX5_snailNumbered_13 : decode cX5_snailNumbered 13 = .ok (.ldc 212, 2) := by decide +kernel
theorem dX5_snailNumbered_15 : decode cX5_snailNumbered 15 = .ok (.invokespecial 192, 3) := by decide +kernel
theorem dX5_snailNumbered_18 : decode cX5_snailNumbered 18 = .ok (.athrow, 1) := by decide +kernel
theorem dX5_snailNumbered_19 : decode cX5_snailNumbered 19 = .ok (.aload_n 0, 1) := by decide +kernel
theorem dX5_snailNumbered_20 : decode cX5_snailNumbered 20 = .ok (.getfield 10, 3) := by decide +kernel
theorem dX5_snailNumbered_23 : decode cX5_snailNumbered 23 = .ok (.iload_n 1, 1) := by decide +kernel
theorem dX5_snailNumbered_24 : decode cX5_snailNumbered 24 = .ok (.invokevirtual 178, 3) := by decide +kernel
theorem dX5_snailNumbered_27 : decode cX5_snailNumbered 27 = .ok (.areturn, 1) := by decide +kernel
theorem dX5_demandState_0 : decode cX5_demandState 0 = .ok (.iload_n 0, 1) := by decide +kernel
theorem dX5_demandState_1 : decode cX5_demandState 1 = .ok (.ifCond .lt 8, 3) := by decide +kernel
theorem dX5_demandState_4 : decode cX5_demandState 4 = .ok (.iload_n 0, 1) := by decide +kernel
theorem dX5_demandState_5 : decode cX5_demandState 5 = .ok (.iconst 4, 1) := by decide +kernel
theorem dX5_demandState_6 : decode cX5_demandState 6 = .ok (.if_icmp .lt 13, 3) := by decide +kernel
theorem dX5_demandState_9 : decode cX5_demandState 9 = .ok (.new 44, 3) := by decide +kernel
theorem dX5_demandState_12 : decode cX5_demandState 12 = .ok (.dup, 1) := by decide +kernel
theorem dX5_demandState_13 : decode cX5_demandState 13 = .ok (.ldc 214, 2) := by decide +kernel
theorem dX5_demandState_15 : decode cX5_demandState 15 = .ok (.invokespecial 48, 3) := by decide +kernel
theorem dX5_demandState_18 : decode cX5_demandState 18 = .ok (.athrow, 1) := by decide +kernel
theorem dX5_demandState_19 : decode cX5_demandState 19 = .ok (.return_, 1) := by decide +kernel
theorem dX5_demandRoom_0 : decode cX5_demandRoom 0 = .ok (.aload_n 0, 1) := by decide +kernel
theorem dX5_demandRoom_1 : decode cX5_demandRoom 1 = .ok (.iload_n 1, 1) := by decide +kernel
theorem dX5_demandRoom_2 : decode cX5_demandRoom 2 = .ok (.iload_n 2, 1) := by decide +kernel
theorem dX5_demandRoom_3 : decode cX5_demandRoom 3 = .ok (.invokevirtual 216, 3) := by decide +kernel
theorem dX5_demandRoom_6 : decode cX5_demandRoom 6 = .ok (.ifCond .ne 13, 3) := by decide +kernel
theorem dX5_demandRoom_9 : decode cX5_demandRoom 9 = .ok (.new 99, 3) := by decide +kernel
theorem dX5_demandRoom_12 : decode cX5_demandRoom 12 = .ok (.dup, 1) := by decide +kernel
theorem dX5_demandRoom_13 : decode cX5_demandRoom 13 = .ok (.ldc 220, 2) := by decide +kernel
theorem dX5_demandRoom_15 : decode cX5_demandRoom 15 = .ok (.invokespecial 103, 3) := by decide +kernel
theorem dX5_demandRoom_18 : decode cX5_demandRoom 18 = .ok (.athrow, 1) := by decide +kernel
theorem dX5_demandRoom_19 : decode cX5_demandRoom 19 = .ok (.return_, 1) := by decide +kernel
theorem dX5_demandValidText_0 : decode cX5_demandValidText 0 = .ok (.aload_n 0, 1) := by decide +kernel
theorem dX5_demandValidText_1 : decode cX5_demandValidText 1 = .ok (.getfield 32, 3) := by decide +kernel
theorem dX5_demandValidText_4 : decode cX5_demandValidText 4 = .ok (.invokevirtual 120, 3) := by decide +kernel
theorem dX5_demandValidText_7 : decode cX5_demandValidText 7 = .ok (.iconst (-1), 1) := by decide +kernel
theorem dX5_demandValidText_8 : decode cX5_demandValidText 8 = .ok (.if_icmp .eq 13, 3) := by decide +kernel
theorem dX5_demandValidText_11 : decode cX5_demandValidText 11 = .ok (.new 99, 3) := by decide +kernel
theorem dX5_demandValidText_14 : decode cX5_demandValidText 14 = .ok (.dup, 1) := by decide +kernel
theorem dX5_demandValidText_15 : decode cX5_demandValidText 15 = .ok (.ldc 222, 2) := by decide +kernel
theorem dX5_demandValidText_17 : decode cX5_demandValidText 17 = .ok (.invokespecial 103, 3) := by decide +kernel
theorem dX5_demandValidText_20 : decode cX5_demandValidText 20 = .ok (.athrow, 1) := by decide +kernel
theorem dX5_demandValidText_21 : decode cX5_demandValidText 21 = .ok (.return_, 1) := by decide +kernel
theorem dX5_firstFailing_0 : decode cX5_firstFailing 0 = .ok (.aload_n 0, 1) := by decide +kernel
theorem dX5_firstFailing_1 : decode cX5_firstFailing 1 = .ok (.getfield 32, 3) := by decide +kernel
theorem dX5_firstFailing_4 : decode cX5_firstFailing 4 = .ok (.invokevirtual 136, 3) := by decide +kernel
theorem dX5_firstFailing_7 : decode cX5_firstFailing 7 = .ok (.istore_n 2, 1) := by decide +kernel
theorem dX5_firstFailing_8 : decode cX5_firstFailing 8 = .ok (.iconst 0, 1) := by decide +kernel
theorem dX5_firstFailing_9 : decode cX5_firstFailing 9 = .ok (.istore_n 3, 1) := by decide +kernel
theorem dX5_firstFailing_10 : decode cX5_firstFailing 10 = .ok (.iconst 0, 1) := by decide +kernel
theorem dX5_firstFailing_11 : decode cX5_firstFailing 11 = .ok (.istore 4, 2) := by decide +kernel
theorem dX5_firstFailing_13 : decode cX5_firstFailing 13 = .ok (.iload 4, 2) := by decide +kernel
theorem dX5_firstFailing_15 : decode cX5_firstFailing 15 = .ok (.iload_n 2, 1) := by decide +kernel
theorem dX5_firstFailing_16 : decode cX5_firstFailing 16 = .ok (.if_icmp .ge 32, 3) := by decide +kernel
theorem dX5_firstFailing_19 : decode cX5_firstFailing 19 = .ok (.aload_n 0, 1) := by decide +kernel
theorem dX5_firstFailing_20 : decode cX5_firstFailing 20 = .ok (.aload_n 1, 1) := by decide +kernel
theorem dX5_firstFailing_21 : decode cX5_firstFailing 21 = .ok (.iload_n 3, 1) := by decide +kernel
theorem dX5_firstFailing_22 : decode cX5_firstFailing 22 = .ok (.invokevirtual 224, 3) := by decide +kernel
theorem dX5_firstFailing_25 : decode cX5_firstFailing 25 = .ok (.ifCond .ne 6, 3) := by decide +kernel
theorem dX5_firstFailing_28 : decode cX5_firstFailing 28 = .ok (.iload 4, 2) := by decide +kernel
theorem dX5_firstFailing_30 : decode cX5_firstFailing 30 = .ok (.ireturn, 1) := by decide +kernel
theorem dX5_firstFailing_31 : decode cX5_firstFailing 31 = .ok (.aload_n 0, 1) := by decide +kernel
theorem dX5_firstFailing_32 : decode cX5_firstFailing 32 = .ok (.getfield 32, 3) := by decide +kernel
theorem dX5_firstFailing_35 : decode cX5_firstFailing 35 = .ok (.iload_n 3, 1) := by decide +kernel
theorem dX5_firstFailing_36 : decode cX5_firstFailing 36 = .ok (.invokevirtual 228, 3) := by decide +kernel
theorem dX5_firstFailing_39 : decode cX5_firstFailing 39 = .ok (.iconst 1, 1) := by decide +kernel
theorem dX5_firstFailing_40 : decode cX5_firstFailing 40 = .ok (.iadd, 1) := by decide +kernel
theorem dX5_firstFailing_41 : decode cX5_firstFailing 41 = .ok (.istore_n 3, 1) := by decide +kernel
theorem dX5_firstFailing_42 : decode cX5_firstFailing 42 = .ok (.iinc 4 1, 3) := by decide +kernel
theorem dX5_firstFailing_45 : decode cX5_firstFailing 45 = .ok (.goto (-32), 3) := by decide +kernel
theorem dX5_firstFailing_48 : decode cX5_firstFailing 48 = .ok (.iconst (-1), 1) := by decide +kernel
theorem dX5_firstFailing_49 : decode cX5_firstFailing 49 = .ok (.ireturn, 1) := by decide +kernel
theorem dX5_follow_0 : decode cX5_follow 0 = .ok (.aload_n 1, 1) := by decide +kernel
theorem dX5_follow_1 : decode cX5_follow 1 = .ok (.aload_n 0, 1) := by decide +kernel
theorem dX5_follow_2 : decode cX5_follow 2 = .ok (.getfield 32, 3) := by decide +kernel
theorem dX5_follow_5 : decode cX5_follow 5 = .ok (.iload_n 2, 1) := by decide +kernel
theorem dX5_follow_6 : decode cX5_follow 6 = .ok (.invokevirtual 231, 3) := by decide +kernel
theorem dX5_follow_9 : decode cX5_follow 9 = .ok (.invokevirtual 178, 3) := by decide +kernel
theorem dX5_follow_12 : decode cX5_follow 12 = .ok (.astore_n 3, 1) := by decide +kernel
theorem dX5_follow_13 : decode cX5_follow 13 = .ok (.aload_n 0, 1) := by decide +kernel
theorem dX5_follow_14 : decode cX5_follow 14 = .ok (.getfield 32, 3) := by decide +kernel
theorem dX5_follow_17 : decode cX5_follow 17 = .ok (.iload_n 2, 1) := by decide +kernel
theorem dX5_follow_18 : decode cX5_follow 18 = .ok (.iconst 1, 1) := by decide +kernel
theorem dX5_follow_19 : decode cX5_follow 19 = .ok (.iadd, 1) := by decide +kernel
theorem dX5_follow_20 : decode cX5_follow 20 = .ok (.invokevirtual 234, 3) := by decide +kernel
theorem dX5_follow_23 : decode cX5_follow 23 = .ok (.istore 4, 2) := by decide +kernel
theorem dX5_follow_25 : decode cX5_follow 25 = .ok (.iload 4, 2) := by decide +kernel
theorem dX5_follow_27 : decode cX5_follow 27 = .ok (.bipush 109, 2) := by decide +kernel
theorem dX5_follow_29 : decode cX5_follow 29 = .ok (.if_icmp .ne 14, 3) := by decide +kernel
theorem dX5_follow_32 : decode cX5_follow 32 = .ok (.aload_n 3, 1) := by decide +kernel
theorem dX5_follow_33 : decode cX5_follow 33 = .ok (.aload_n 1, 1) := by decide +kernel
theorem dX5_follow_34 : decode cX5_follow 34 = .ok (.getfield 87, 3) := by decide +kernel
theorem dX5_follow_37 : decode cX5_follow 37 = .ok (.invokevirtual 90, 3) := by decide +kernel
theorem dX5_follow_40 : decode cX5_follow 40 = .ok (.pop, 1) := by decide +kernel
theorem dX5_follow_41 : decode cX5_follow 41 = .ok (.iconst 1, 1) := by decide +kernel
theorem dX5_follow_42 : decode cX5_follow 42 = .ok (.ireturn, 1) := by decide +kernel
theorem dX5_follow_43 : decode cX5_follow 43 = .ok (.iload 4, 2) := by decide +kernel
theorem dX5_follow_45 : decode cX5_follow 45 = .ok (.bipush 98, 2) := by decide +kernel
theorem dX5_follow_47 : decode cX5_follow 47 = .ok (.if_icmp .ne 18, 3) := by decide +kernel
theorem dX5_follow_50 : decode cX5_follow 50 = .ok (.aload_n 3, 1) := by decide +kernel
theorem dX5_follow_51 : decode cX5_follow 51 = .ok (.aload_n 0, 1) := by decide +kernel
theorem dX5_follow_52 : decode cX5_follow 52 = .ok (.getfield 32, 3) := by decide +kernel
theorem dX5_follow_55 : decode cX5_follow 55 = .ok (.iload_n 2, 1) := by decide +kernel
theorem dX5_follow_56 : decode cX5_follow 56 = .ok (.iconst 2, 1) := by decide +kernel
theorem dX5_follow_57 : decode cX5_follow 57 = .ok (.iadd, 1) := by decide +kernel
theorem dX5_follow_58 : decode cX5_follow 58 = .ok (.invokevirtual 238, 3) := by decide +kernel
theorem dX5_follow_61 : decode cX5_follow 61 = .ok (.invokestatic 241, 3) := by decide +kernel
theorem dX5_follow_64 : decode cX5_follow 64 = .ok (.ireturn, 1) := by decide +kernel
theorem dX5_follow_65 : decode cX5_follow 65 = .ok (.aload_n 0, 1) := by decide +kernel
theorem dX5_follow_66 : decode cX5_follow 66 = .ok (.aload_n 3, 1) := by decide +kernel
theorem dX5_follow_67 : decode cX5_follow 67 = .ok (.aload_n 1, 1) := by decide +kernel
theorem dX5_follow_68 : decode cX5_follow 68 = .ok (.getfield 51, 3) := by decide +kernel
theorem dX5_follow_71 : decode cX5_follow 71 = .ok (.iload_n 2, 1) := by decide +kernel
theorem dX5_follow_72 : decode cX5_follow 72 = .ok (.iconst 2, 1) := by decide +kernel
theorem dX5_follow_73 : decode cX5_follow 73 = .ok (.iadd, 1) := by decide +kernel
theorem dX5_follow_74 : decode cX5_follow 74 = .ok (.aload_n 0, 1) := by decide +kernel
theorem dX5_follow_75 : decode cX5_follow 75 = .ok (.getfield 32, 3) := by decide +kernel
theorem dX5_follow_78 : decode cX5_follow 78 = .ok (.iload_n 2, 1) := by decide +kernel
theorem dX5_follow_79 : decode cX5_follow 79 = .ok (.invokevirtual 228, 3) := by decide +kernel
theorem dX5_follow_82 : decode cX5_follow 82 = .ok (.invokevirtual 245, 3) := by decide +kernel
theorem dX5_follow_85 : decode cX5_follow 85 = .ok (.ireturn, 1) := by decide +kernel
theorem dX5_goBackIfPossible_0 : decode cX5_goBackIfPossible 0 = .ok (.aload_n 0, 1) := by decide +kernel
theorem dX5_goBackIfPossible_1 : decode cX5_goBackIfPossible 1 = .ok (.iload_n 1, 1) := by decide +kernel
theorem dX5_goBackIfPossible_2 : decode cX5_goBackIfPossible 2 = .ok (.invokevirtual 95, 3) := by decide +kernel
theorem dX5_goBackIfPossible_5 : decode cX5_goBackIfPossible 5 = .ok (.ifCond .ne 5, 3) := by decide +kernel
theorem dX5_goBackIfPossible_8 : decode cX5_goBackIfPossible 8 = .ok (.iconst 0, 1) := by decide +kernel
theorem dX5_goBackIfPossible_9 : decode cX5_goBackIfPossible 9 = .ok (.ireturn, 1) := by decide +kernel
theorem dX5_goBackIfPossible_10 : decode cX5_goBackIfPossible 10 = .ok (.aload_n 0, 1) := by decide +kernel
theorem dX5_goBackIfPossible_11 : decode cX5_goBackIfPossible 11 = .ok (.iload_n 1, 1) := by decide +kernel
theorem dX5_goBackIfPossible_12 : decode cX5_goBackIfPossible 12 = .ok (.invokevirtual 104, 3) := by decide +kernel
theorem dX5_goBackIfPossible_15 : decode cX5_goBackIfPossible 15 = .ok (.iconst 1, 1) := by decide +kernel
theorem dX5_goBackIfPossible_16 : decode cX5_goBackIfPossible 16 = .ok (.ireturn, 1) := by decide +kernel
theorem dX5_feelAll_0 : decode cX5_feelAll 0 = .ok (.iload_n 3, 1) := by decide +kernel
theorem dX5_feelAll_1 : decode cX5_feelAll 1 = .ok (.istore 5, 2) := by decide +kernel
theorem dX5_feelAll_3 : decode cX5_feelAll 3 = .ok (.iload 5, 2) := by decide +kernel
theorem dX5_feelAll_5 : decode cX5_feelAll 5 = .ok (.iload 4, 2) := by decide +kernel
theorem dX5_feelAll_7 : decode cX5_feelAll 7 = .ok (.if_icmp .ge 53, 3) := by decide +kernel
theorem dX5_feelAll_10 : decode cX5_feelAll 10 = .ok (.aload_n 0, 1) := by decide +kernel
theorem dX5_feelAll_11 : decode cX5_feelAll 11 = .ok (.getfield 32, 3) := by decide +kernel
theorem dX5_feelAll_14 : decode cX5_feelAll 14 = .ok (.iload 5, 2) := by decide +kernel
theorem dX5_feelAll_16 : decode cX5_feelAll 16 = .ok (.invokevirtual 231, 3) := by decide +kernel
theorem dX5_feelAll_19 : decode cX5_feelAll 19 = .ok (.istore 6, 2) := by decide +kernel
theorem dX5_feelAll_21 : decode cX5_feelAll 21 = .ok (.aload_n 1, 1) := by decide +kernel
theorem dX5_feelAll_22 : decode cX5_feelAll 22 = .ok (.iload_n 2, 1) := by decide +kernel
theorem dX5_feelAll_23 : decode cX5_feelAll 23 = .ok (.iload 6, 2) := by decide +kernel
theorem dX5_feelAll_25 : decode cX5_feelAll 25 = .ok (.invokevirtual 55, 3) := by decide +kernel
theorem dX5_feelAll_28 : decode cX5_feelAll 28 = .ok (.istore 7, 2) := by decide +kernel
theorem dX5_feelAll_30 : decode cX5_feelAll 30 = .ok (.aload_n 1, 1) := by decide +kernel
theorem dX5_feelAll_31 : decode cX5_feelAll 31 = .ok (.iconst 1, 1) := by decide +kernel
theorem dX5_feelAll_32 : decode cX5_feelAll 32 = .ok (.iload 7, 2) := by decide +kernel
theorem dX5_feelAll_34 : decode cX5_feelAll 34 = .ok (.invokestatic 61, 3) := by decide +kernel
theorem dX5_feelAll_37 : decode cX5_feelAll 37 = .ok (.invokevirtual 216, 3) := by decide +kernel
theorem dX5_feelAll_40 : decode cX5_feelAll 40 = .ok (.ifCond .ne 5, 3) := by decide +kernel
theorem dX5_feelAll_43 : decode cX5_feelAll 43 = .ok (.iconst 0, 1) := by decide +kernel
theorem dX5_feelAll_44 : decode cX5_feelAll 44 = .ok (.ireturn, 1) := by decide +kernel
theorem dX5_feelAll_45 : decode cX5_feelAll 45 = .ok (.aload_n 1, 1) := by decide +kernel
theorem dX5_feelAll_46 : decode cX5_feelAll 46 = .ok (.iload 6, 2) := by decide +kernel
theorem dX5_feelAll_48 : decode cX5_feelAll 48 = .ok (.iload 7, 2) := by decide +kernel
theorem dX5_feelAll_50 : decode cX5_feelAll 50 = .ok (.iconst 1, 1) := by decide +kernel
theorem dX5_feelAll_51 : decode cX5_feelAll 51 = .ok (.invokevirtual 75, 3) := by decide +kernel
theorem dX5_feelAll_54 : decode cX5_feelAll 54 = .ok (.iinc 5 1, 3) := by decide +kernel
theorem dX5_feelAll_57 : decode cX5_feelAll 57 = .ok (.goto (-54), 3) := by decide +kernel
theorem dX5_feelAll_60 : decode cX5_feelAll 60 = .ok (.iconst 1, 1) := by decide +kernel
theorem dX5_feelAll_61 : decode cX5_feelAll 61 = .ok (.ireturn, 1) := by decide +kernel
end
section
theorem dX6_init_0 : decode cX6_init 0 = .ok (.aload_n 0, 1) := by decide +kernel
theorem dX6_init_1 : decode cX6_init 1 = .ok (.invokespecial 1, 3) := by decide +kernel
theorem dX6_init_4 : decode cX6_init 4 = .ok (.aload_n 0, 1) := by decide +kernel
theorem dX6_init_5 : decode cX6_init 5 = .ok (.sipush 230, 3) := by decide +kernel
theorem dX6_init_8 : decode cX6_init 8 = .ok (.newarray .int, 2) := by decide +kernel
theorem dX6_init_10 : decode cX6_init 10 = .ok (.putfield 7, 3) := by decide +kernel
theorem dX6_init_13 : decode cX6_init 13 = .ok (.aload_n 0, 1) := by decide +kernel
theorem dX6_init_14 : decode cX6_init 14 = .ok (.sipush 920, 3) := by decide +kernel
theorem dX6_init_17 : decode cX6_init 17 = .ok (.newarray .int, 2) := by decide +kernel
theorem dX6_init_19 : decode cX6_init 19 = .ok (.putfield 13, 3) := by decide +kernel
theorem dX6_init_22 : decode cX6_init 22 = .ok (.aload_n 0, 1) := by decide +kernel
theorem dX6_init_23 : decode cX6_init 23 = .ok (.sipush 230, 3) := by decide +kernel
theorem dX6_init_26 : decode cX6_init 26 = .ok (.newarray .int, 2) := by decide +kernel
theorem dX6_init_28 : decode cX6_init 28 = .ok (.putfield 16, 3) := by decide +kernel
theorem dX6_init_31 : decode cX6_init 31 = .ok (.aload_n 0, 1) := by decide +kernel
theorem dX6_init_32 : decode cX6_init 32 = .ok (.sipush 230, 3) := by decide +kernel
theorem dX6_init_35 : decode cX6_init 35 = .ok (.newarray .int, 2) := by decide +kernel
theorem dX6_init_37 : decode cX6_init 37 = .ok (.putfield 19, 3) := by decide +kernel
theorem dX6_init_40 : decode cX6_init 40 = .ok (.aload_n 0, 1) := by decide +kernel
theorem dX6_init_41 : decode cX6_init 41 = .ok (.bipush 80, 2) := by decide +kernel
theorem dX6_init_43 : decode cX6_init 43 = .ok (.newarray .int, 2) := by decide +kernel
theorem dX6_init_45 : decode cX6_init 45 = .ok (.putfield 22, 3) := by decide +kernel
theorem dX6_init_48 : decode cX6_init 48 = .ok (.aload_n 0, 1) := by decide +kernel
theorem dX6_init_49 : decode cX6_init 49 = .ok (.getfield 7, 3) := by decide +kernel
theorem dX6_init_52 : decode cX6_init 52 = .ok (.sipush 229, 3) := by decide +kernel
theorem dX6_init_55 : decode cX6_init 55 = .ok (.bipush 24, 2) := by decide +kernel
theorem dX6_init_57 : decode cX6_init 57 = .ok (.iastore, 1) := by decide +kernel
theorem dX6_init_58 : decode cX6_init 58 = .ok (.return_, 1) := by decide +kernel
theorem dX6_thrown_0 : decode cX6_thrown 0 = .ok (.aload_n 0, 1) := by decide +kernel
theorem dX6_thrown_1 : decode cX6_thrown 1 = .ok (.getfield 25, 3) := by decide +kernel
theorem dX6_thrown_4 : decode cX6_thrown 4 = .ok (.ireturn, 1) := by decide +kernel
theorem dX6_throwing_0 : decode cX6_throwing 0 = .ok (.aload_n 0, 1) := by decide +kernel
theorem dX6_throwing_1 : decode cX6_throwing 1 = .ok (.iload_n 1, 1) := by decide +kernel
theorem dX6_throwing_2 : decode cX6_throwing 2 = .ok (.putfield 25, 3) := by decide +kernel
theorem dX6_throwing_5 : decode cX6_throwing 5 = .ok (.iconst 0, 1) := by decide +kernel
theorem dX6_throwing_6 : decode cX6_throwing 6 = .ok (.ireturn, 1) := by decide +kernel
theorem dX6_in_0 : decode cX6_in 0 = .ok (.iload_n 0, 1) := by decide +kernel
theorem dX6_in_1 : decode cX6_in 1 = .ok (.iload_n 1, 1) := by decide +kernel
theorem dX6_in_2 : decode cX6_in 2 = .ok (.if_icmp .lt 12, 3) := by decide +kernel
theorem dX6_in_5 : decode cX6_in 5 = .ok (.iload_n 0, 1) := by decide +kernel
theorem dX6_in_6 : decode cX6_in 6 = .ok (.iload_n 2, 1) := by decide +kernel
theorem dX6_in_7 : decode cX6_in 7 = .ok (.if_icmp .gt 7, 3) := by decide +kernel
theorem dX6_in_10 : decode cX6_in 10 = .ok (.iconst 1, 1) := by decide +kernel
theorem dX6_in_11 : decode cX6_in 11 = .ok (.goto 4, 3) := by decide +kernel
theorem dX6_in_14 : decode cX6_in 14 = .ok (.iconst 0, 1) := by decide +kernel
theorem dX6_in_15 : decode cX6_in 15 = .ok (.ireturn, 1) := by decide +kernel
theorem dX6_isThere_0 : decode cX6_isThere 0 = .ok (.aload_n 0, 1) := by decide +kernel
theorem dX6_isThere_1 : decode cX6_isThere 1 = .ok (.iload_n 1, 1) := by decide +kernel
theorem dX6_isThere_2 : decode cX6_isThere 2 = .ok (.iconst 0, 1) := by decide +kernel
theorem dX6_isThere_3 : decode cX6_isThere 3 = .ok (.iconst 3, 1) := by decide +kernel
theorem dX6_isThere_4 : decode cX6_isThere 4 = .ok (.invokestatic 29, 3) := by decide +kernel
theorem dX6_isThere_7 : decode cX6_isThere 7 = .ok (.ifCond .eq 7, 3) := by decide +kernel
theorem dX6_isThere_10 : decode cX6_isThere 10 = .ok (.iconst 0, 1) := by decide +kernel
theorem dX6_isThere_11 : decode cX6_isThere 11 = .ok (.goto 4, 3) := by decide +kernel
theorem dX6_isThere_14 : decode cX6_isThere 14 = .ok (.iconst 1, 1) := by decide +kernel
theorem dX6_isThere_15 : decode cX6_isThere 15 = .ok (.putfield 25, 3) := by decide +kernel
theorem dX6_isThere_18 : decode cX6_isThere 18 = .ok (.aload_n 0, 1) := by decide +kernel
theorem dX6_isThere_19 : decode cX6_isThere 19 = .ok (.getfield 25, 3) := by decide +kernel
theorem dX6_isThere_22 : decode cX6_isThere 22 = .ok (.ifCond .ne 7, 3) := by decide +kernel
theorem dX6_isThere_25 : decode cX6_isThere 25 = .ok (.iconst 1, 1) := by decide +kernel
theorem dX6_isThere_26 : decode cX6_isThere 26 = .ok (.goto 4, 3) := by decide +kernel
theorem dX6_isThere_29 : decode cX6_isThere 29 = .ok (.iconst 0, 1) := by decide +kernel
theorem dX6_isThere_30 : decode cX6_isThere 30 = .ok (.ireturn, 1) := by decide +kernel
theorem dX6_size_0 : decode cX6_size 0 = .ok (.iload_n 0, 1) := by decide +kernel
theorem dX6_size_1 : decode cX6_size 1 = .ok (.ifCond .ge 8, 3) := by decide +kernel
theorem dX6_size_4 : decode cX6_size 4 = .ok (.iload_n 0, 1) := by decide +kernel
theorem dX6_size_5 : decode cX6_size 5 = .ok (.ineg, 1) := by decide +kernel
theorem dX6_size_6 : decode cX6_size 6 = .ok (.goto 4, 3) := by decide +kernel
theorem dX6_size_9 : decode cX6_size 9 = .ok (.iload_n 0, 1) := by decide +kernel
theorem dX6_size_10 : decode cX6_size 10 = .ok (.ireturn, 1) := by decide +kernel
theorem dX6_record_0 : decode cX6_record 0 = .ok (.aload_n 0, 1) := by decide +kernel
theorem dX6_record_1 : decode cX6_record 1 = .ok (.getfield 33, 3) := by decide +kernel
theorem dX6_record_4 : decode cX6_record 4 = .ok (.iconst 4, 1) := by decide +kernel
theorem dX6_record_5 : decode cX6_record 5 = .ok (.if_icmp .ne 44, 3) := by decide +kernel
theorem dX6_record_8 : decode cX6_record 8 = .ok (.iconst 0, 1) := by decide +kernel
theorem dX6_record_9 : decode cX6_record 9 = .ok (.istore_n 1, 1) := by decide +kernel
theorem dX6_record_10 : decode cX6_record 10 = .ok (.iload_n 1, 1) := by decide +kernel
theorem dX6_record_11 : decode cX6_record 11 = .ok (.sipush 690, 3) := by decide +kernel
theorem dX6_record_14 : decode cX6_record 14 = .ok (.if_icmp .ge 25, 3) := by decide +kernel
theorem dX6_record_17 : decode cX6_record 17 = .ok (.aload_n 0, 1) := by decide +kernel
theorem dX6_record_18 : decode cX6_record 18 = .ok (.getfield 13, 3) := by decide +kernel
theorem dX6_record_21 : decode cX6_record 21 = .ok (.iload_n 1, 1) := by decide +kernel
theorem dX6_record_22 : decode cX6_record 22 = .ok (.aload_n 0, 1) := by decide +kernel
theorem dX6_record_23 : decode cX6_record 23 = .ok (.getfield 13, 3) := by decide +kernel
theorem dX6_record_26 : decode cX6_record 26 = .ok (.sipush 230, 3) := by decide +kernel
theorem dX6_record_29 : decode cX6_record 29 = .ok (.iload_n 1, 1) := by decide +kernel
theorem dX6_record_30 : decode cX6_record 30 = .ok (.iadd, 1) := by decide +kernel
theorem dX6_record_31 : decode cX6_record 31 = .ok (.iaload, 1) := by decide +kernel
theorem dX6_record_32 : decode cX6_record 32 = .ok (.iastore, 1) := by decide +kernel
theorem dX6_record_33 : decode cX6_record 33 = .ok (.iinc 1 1, 3) := by decide +kernel
theorem dX6_record_36 : decode cX6_record 36 = .ok (.goto (-26), 3) := by decide +kernel
theorem dX6_record_39 : decode cX6_record 39 = .ok (.aload_n 0, 1) := by decide +kernel
theorem dX6_record_40 : decode cX6_record 40 = .ok (.dup, 1) := by decide +kernel
theorem dX6_record_41 : decode cX6_record 41 = .ok (.getfield 33, 3) := by decide +kernel
theorem dX6_record_44 : decode cX6_record 44 = .ok (.iconst 1, 1) := by decide +kernel
theorem dX6_record_45 : decode cX6_record 45 = .ok (.isub, 1) := by decide +kernel
theorem dX6_record_46 : decode cX6_record 46 = .ok (.putfield 33, 3) := by decide +kernel
theorem dX6_record_49 : decode cX6_record 49 = .ok (.iconst 0, 1) := by decide +kernel
theorem dX6_record_50 : decode cX6_record 50 = .ok (.istore_n 1, 1) := by decide +kernel
theorem dX6_record_51 : decode cX6_record 51 = .ok (.iload_n 1, 1) := by decide +kernel
theorem dX6_record_52 : decode cX6_record 52 = .ok (.sipush 230, 3) := by decide +kernel
theorem dX6_record_55 : decode cX6_record 55 = .ok (.if_icmp .ge 30, 3) := by decide +kernel
theorem dX6_record_58 : decode cX6_record 58 = .ok (.aload_n 0, 1) := by decide +kernel
theorem dX6_record_59 : decode cX6_record 59 = .ok (.getfield 13, 3) := by decide +kernel
theorem dX6_record_62 : decode cX6_record 62 = .ok (.sipush 230, 3) := by decide +kernel
theorem dX6_record_65 : decode cX6_record 65 = .ok (.aload_n 0, 1) := by decide +kernel
theorem dX6_record_66 : decode cX6_record 66 = .ok (.getfield 33, 3) := by decide +kernel
theorem dX6_record_69 : decode cX6_record 69 = .ok (.imul, 1) := by decide +kernel
theorem dX6_record_70 : decode cX6_record 70 = .ok (.iload_n 1, 1) := by decide +kernel
theorem dX6_record_71 : decode cX6_record 71 = .ok (.iadd, 1) := by decide +kernel
theorem dX6_record_72 : decode cX6_record 72 = .ok (.aload_n 0, 1) := by decide +kernel
theorem dX6_record_73 : decode cX6_record 73 = .ok (.getfield 7, 3) := by decide +kernel
theorem dX6_record_76 : decode cX6_record 76 = .ok (.iload_n 1, 1) := by decide +kernel
theorem dX6_record_77 : decode cX6_record 77 = .ok (.iaload, 1) := by decide +kernel
theorem dX6_record_78 : decode cX6_record 78 = .ok (.iastore, 1) := by decide +kernel
theorem dX6_record_79 : decode cX6_record 79 = .ok (.iinc 1 1, 3) := by decide +kernel
theorem dX6_record_82 : decode cX6_record 82 = .ok (.goto (-31), 3) := by decide +kernel
theorem dX6_record_85 : decode cX6_record 85 = .ok (.aload_n 0, 1) := by decide +kernel
theorem dX6_record_86 : decode cX6_record 86 = .ok (.dup, 1) := by decide +kernel
theorem dX6_record_87 : decode cX6_record 87 = .ok (.getfield 33, 3) := by decide +kernel
theorem dX6_record_90 : decode cX6_record 90 = .ok (.iconst 1, 1) := by decide +kernel
theorem dX6_record_91 : decode cX6_record 91 = .ok (.iadd, 1) := by decide +kernel
theorem dX6_record_92 : decode cX6_record 92 = .ok (.putfield 33, 3) := by decide +kernel
theorem dX6_record_95 : decode cX6_record 95 = .ok (.return_, 1) := by decide +kernel
theorem dX6_of_0 : decode cX6_of 0 = .ok (.aload_n 0, 1) := by decide +kernel
theorem dX6_of_1 : decode cX6_of 1 = .ok (.getfield 7, 3) := by decide +kernel
theorem dX6_of_4 : decode cX6_of 4 = .ok (.bipush 57, 2) := by decide +kernel
theorem dX6_of_6 : decode cX6_of 6 = .ok (.iload_n 1, 1) := by decide +kernel
theorem dX6_of_7 : decode cX6_of 7 = .ok (.imul, 1) := by decide +kernel
theorem dX6_of_8 : decode cX6_of 8 = .ok (.iload_n 2, 1) := by decide +kernel
theorem dX6_of_9 : decode cX6_of 9 = .ok (.iadd, 1) := by decide +kernel
theorem dX6_of_10 : decode cX6_of 10 = .ok (.iaload, 1) := by decide +kernel
theorem dX6_of_11 : decode cX6_of 11 = .ok (.ireturn, 1) := by decide +kernel
theorem dX6_lay_0 : decode cX6_lay 0 = .ok (.aload_n 0, 1) := by decide +kernel
theorem dX6_lay_1 : decode cX6_lay 1 = .ok (.getfield 7, 3) := by decide +kernel
theorem dX6_lay_4 : decode cX6_lay 4 = .ok (.bipush 57, 2) := by decide +kernel
theorem dX6_lay_6 : decode cX6_lay 6 = .ok (.iload_n 1, 1) := by decide +kernel
theorem dX6_lay_7 : decode cX6_lay 7 = .ok (.imul, 1) := by decide +kernel
theorem dX6_lay_8 : decode cX6_lay 8 = .ok (.iload_n 2, 1) := by decide +kernel
theorem dX6_lay_9 : decode cX6_lay 9 = .ok (.iadd, 1) := by decide +kernel
theorem dX6_lay_10 : decode cX6_lay 10 = .ok (.iload_n 3, 1) := by decide +kernel
theorem dX6_lay_11 : decode cX6_lay 11 = .ok (.iastore, 1) := by decide +kernel
theorem dX6_lay_12 : decode cX6_lay 12 = .ok (.return_, 1) := by decide +kernel
theorem dX6_grow_0 : decode cX6_grow 0 = .ok (.aload_n 0, 1) := by decide +kernel
theorem dX6_grow_1 : decode cX6_grow 1 = .ok (.getfield 7, 3) := by decide +kernel
theorem dX6_grow_4 : decode cX6_grow 4 = .ok (.bipush 57, 2) := by decide +kernel
theorem dX6_grow_6 : decode cX6_grow 6 = .ok (.iload_n 1, 1) := by decide +kernel
theorem dX6_grow_7 : decode cX6_grow 7 = .ok (.imul, 1) := by decide +kernel
theorem dX6_grow_8 : decode cX6_grow 8 = .ok (.iload_n 2, 1) := by decide +kernel
theorem dX6_grow_9 : decode cX6_grow 9 = .ok (.iadd, 1) := by decide +kernel
theorem dX6_grow_10 : decode cX6_grow 10 = .ok (.dup2, 1) := by decide +kernel
theorem dX6_grow_11 : decode cX6_grow 11 = .ok (.iaload, 1) := by decide +kernel
theorem dX6_grow_12 : decode cX6_grow 12 = .ok (.iload_n 3, 1) := by decide +kernel
theorem dX6_grow_13 : decode cX6_grow 13 = .ok (.iadd, 1) := by decide +kernel
theorem dX6_grow_14 : decode cX6_grow 14 = .ok (.iastore, 1) := by decide +kernel
theorem dX6_grow_15 : decode cX6_grow 15 = .ok (.return_, 1) := by decide +kernel
theorem dX6_order_0 : decode cX6_order 0 = .ok (.iload_n 0, 1) := by decide +kernel
theorem dX6_order_1 : decode cX6_order 1 = .ok (.iconst 3, 1) := by decide +kernel
theorem dX6_order_2 : decode cX6_order 2 = .ok (.if_icmp .ne 7, 3) := by decide +kernel
theorem dX6_order_5 : decode cX6_order 5 = .ok (.iconst 2, 1) := by decide +kernel
theorem dX6_order_6 : decode cX6_order 6 = .ok (.goto 13, 3) := by decide +kernel
theorem dX6_order_9 : decode cX6_order 9 = .ok (.iload_n 0, 1) := by decide +kernel
theorem dX6_order_10 : decode cX6_order 10 = .ok (.iconst 2, 1) := by decide +kernel
theorem dX6_order_11 : decode cX6_order 11 = .ok (.if_icmp .ne 7, 3) := by decide +kernel
theorem dX6_order_14 : decode cX6_order 14 = .ok (.iconst 3, 1) := by decide +kernel
theorem dX6_order_15 : decode cX6_order 15 = .ok (.goto 4, 3) := by decide +kernel
theorem dX6_order_18 : decode cX6_order 18 = .ok (.iload_n 0, 1) := by decide +kernel
theorem dX6_order_19 : decode cX6_order 19 = .ok (.ireturn, 1) := by decide +kernel
theorem dX6_state_0 : decode cX6_state 0 = .ok (.iload_n 0, 1) := by decide +kernel
theorem dX6_state_1 : decode cX6_state 1 = .ok (.iconst 3, 1) := by decide +kernel
theorem dX6_state_2 : decode cX6_state 2 = .ok (.iand, 1) := by decide +kernel
theorem dX6_state_3 : decode cX6_state 3 = .ok (.invokestatic 36, 3) := by decide +kernel
theorem dX6_state_6 : decode cX6_state 6 = .ok (.ireturn, 1) := by decide +kernel
theorem dX6_onward_0 : decode cX6_onward 0 = .ok (.iload_n 1, 1) := by decide +kernel
theorem dX6_onward_1 : decode cX6_onward 1 = .ok (.invokestatic 36, 3) := by decide +kernel
theorem dX6_onward_4 : decode cX6_onward 4 = .ok (.iload_n 0, 1) := by decide +kernel
theorem dX6_onward_5 : decode cX6_onward 5 = .ok (.invokestatic 36, 3) := by decide +kernel
theorem dX6_onward_8 : decode cX6_onward 8 = .ok (.isub, 1) := by decide +kernel
theorem dX6_onward_9 : decode cX6_onward 9 = .ok (.iconst 4, 1) := by decide +kernel
theorem dX6_onward_10 : decode cX6_onward 10 = .ok (.iadd, 1) := by decide +kernel
theorem dX6_onward_11 : decode cX6_onward 11 = .ok (.iconst 3, 1) := by decide +kernel
theorem dX6_onward_12 : decode cX6_onward 12 = .ok (.iand, 1) := by decide +kernel
theorem dX6_onward_13 : decode cX6_onward 13 = .ok (.ireturn, 1) := by decide +kernel
theorem dX6_stepOf_0 : decode cX6_stepOf 0 = .ok (.aload_n 0, 1) := by decide +kernel
theorem dX6_stepOf_1 : decode cX6_stepOf 1 = .ok (.iload_n 1, 1) := by decide +kernel
theorem dX6_stepOf_2 : decode cX6_stepOf 2 = .ok (.iconst 0, 1) := by decide +kernel
theorem dX6_stepOf_3 : decode cX6_stepOf 3 = .ok (.invokevirtual 40, 3) := by decide +kernel
theorem dX6_stepOf_6 : decode cX6_stepOf 6 = .ok (.iload_n 2, 1) := by decide +kernel
theorem dX6_stepOf_7 : decode cX6_stepOf 7 = .ok (.invokestatic 44, 3) := by decide +kernel
theorem dX6_stepOf_10 : decode cX6_stepOf 10 = .ok (.istore_n 3, 1) := by decide +kernel
theorem dX6_stepOf_11 : decode cX6_stepOf 11 = .ok (.iload_n 3, 1) := by decide +kernel
theorem dX6_stepOf_12 : decode cX6_stepOf 12 = .ok (.iconst 2, 1) := by decide +kernel
theorem dX6_stepOf_13 : decode cX6_stepOf 13 = .ok (.if_icmp .ne 29, 3) := by decide +kernel
theorem dX6_stepOf_16 : decode cX6_stepOf 16 = .ok (.aload_n 0, 1) := by decide +kernel
theorem dX6_stepOf_17 : decode cX6_stepOf 17 = .ok (.getfield 7, 3) := by decide +kernel
theorem dX6_stepOf_20 : decode cX6_stepOf 20 = .ok (.sipush 228, 3) := by decide +kernel
theorem dX6_stepOf_23 : decode cX6_stepOf 23 = .ok (.iaload, 1) := by decide +kernel
theorem dX6_stepOf_24 : decode cX6_stepOf 24 = .ok (.ifCond .ne 7, 3) := by decide +kernel
theorem dX6_stepOf_27 : decode cX6_stepOf 27 = .ok (.iconst 0, 1) := by decide +kernel
theorem dX6_stepOf_28 : decode cX6_stepOf 28 = .ok (.goto 24, 3) := by decide +kernel
theorem dX6_stepOf_31 : decode cX6_stepOf 31 = .ok (.iconst 2, 1) := by decide +kernel
theorem dX6_stepOf_32 : decode cX6_stepOf 32 = .ok (.aload_n 0, 1) := by decide +kernel
theorem dX6_stepOf_33 : decode cX6_stepOf 33 = .ok (.iload_n 1, 1) := by decide +kernel
theorem dX6_stepOf_34 : decode cX6_stepOf 34 = .ok (.iconst 2, 1) := by decide +kernel
theorem dX6_stepOf_35 : decode cX6_stepOf 35 = .ok (.invokevirtual 40, 3) := by decide +kernel
theorem dX6_stepOf_38 : decode cX6_stepOf 38 = .ok (.imul, 1) := by decide +kernel
theorem dX6_stepOf_39 : decode cX6_stepOf 39 = .ok (.goto 13, 3) := by decide +kernel
theorem dX6_stepOf_42 : decode cX6_stepOf 42 = .ok (.iload_n 3, 1) := by decide +kernel
theorem dX6_stepOf_43 : decode cX6_stepOf 43 = .ok (.iconst 3, 1) := by decide +kernel
theorem dX6_stepOf_44 : decode cX6_stepOf 44 = .ok (.if_icmp .ne 7, 3) := by decide +kernel
theorem dX6_stepOf_47 : decode cX6_stepOf 47 = .ok (.iconst (-1), 1) := by decide +kernel
theorem dX6_stepOf_48 : decode cX6_stepOf 48 = .ok (.goto 4, 3) := by decide +kernel
theorem dX6_stepOf_51 : decode cX6_stepOf 51 = .ok (.iload_n 3, 1) := by decide +kernel
theorem dX6_stepOf_52 : decode cX6_stepOf 52 = .ok (.ireturn, 1) := by decide +kernel
theorem dX6_isA_0 : decode cX6_isA 0 = .ok (.iload_n 0, 1) := by decide +kernel
theorem dX6_isA_1 : decode cX6_isA 1 = .ok (.iload_n 1, 1) := by decide +kernel
theorem dX6_isA_2 : decode cX6_isA 2 = .ok (.ixor, 1) := by decide +kernel
theorem dX6_isA_3 : decode cX6_isA 3 = .ok (.iconst 2, 1) := by decide +kernel
theorem dX6_isA_4 : decode cX6_isA 4 = .ok (.if_icmp .ne 7, 3) := by decide +kernel
theorem dX6_isA_7 : decode cX6_isA 7 = .ok (.iconst 1, 1) := by decide +kernel
theorem dX6_isA_8 : decode cX6_isA 8 = .ok (.goto 4, 3) := by decide +kernel
theorem dX6_isA_11 : decode cX6_isA 11 = .ok (.iconst 0, 1) := by decide +kernel
theorem dX6_isA_12 : decode cX6_isA 12 = .ok (.ireturn, 1) := by decide +kernel
theorem dX6_canFeel_0 : decode cX6_canFeel 0 = .ok (.aload_n 0, 1) := by decide +kernel
theorem dX6_canFeel_1 : decode cX6_canFeel 1 = .ok (.iload_n 1, 1) := by decide +kernel
theorem dX6_canFeel_2 : decode cX6_canFeel 2 = .ok (.bipush 6, 2) := by decide +kernel
theorem dX6_canFeel_4 : decode cX6_canFeel 4 = .ok (.invokevirtual 40, 3) := by decide +kernel
theorem dX6_canFeel_7 : decode cX6_canFeel 7 = .ok (.iload_n 3, 1) := by decide +kernel
theorem dX6_canFeel_8 : decode cX6_canFeel 8 = .ok (.iadd, 1) := by decide +kernel
theorem dX6_canFeel_9 : decode cX6_canFeel 9 = .ok (.ldc 47, 2) := by decide +kernel
theorem dX6_canFeel_11 : decode cX6_canFeel 11 = .ok (.if_icmp .gt 28, 3) := by decide +kernel
theorem dX6_canFeel_14 : decode cX6_canFeel 14 = .ok (.aload_n 0, 1) := by decide +kernel
theorem dX6_canFeel_15 : decode cX6_canFeel 15 = .ok (.iload_n 1, 1) := by decide +kernel
theorem dX6_canFeel_16 : decode cX6_canFeel 16 = .ok (.iconst 5, 1) := by decide +kernel
theorem dX6_canFeel_17 : decode cX6_canFeel 17 = .ok (.invokevirtual 40, 3) := by decide +kernel
theorem dX6_canFeel_20 : decode cX6_canFeel 20 = .ok (.aload_n 0, 1) := by decide +kernel
theorem dX6_canFeel_21 : decode cX6_canFeel 21 = .ok (.iload_n 1, 1) := by decide +kernel
theorem dX6_canFeel_22 : decode cX6_canFeel 22 = .ok (.iload_n 2, 1) := by decide +kernel
theorem dX6_canFeel_23 : decode cX6_canFeel 23 = .ok (.invokevirtual 48, 3) := by decide +kernel
theorem dX6_canFeel_26 : decode cX6_canFeel 26 = .ok (.invokestatic 51, 3) := by decide +kernel
theorem dX6_canFeel_29 : decode cX6_canFeel 29 = .ok (.iadd, 1) := by decide +kernel
theorem dX6_canFeel_30 : decode cX6_canFeel 30 = .ok (.ldc 47, 2) := by decide +kernel
theorem dX6_canFeel_32 : decode cX6_canFeel 32 = .ok (.if_icmp .gt 7, 3) := by decide +kernel
theorem dX6_canFeel_35 : decode cX6_canFeel 35 = .ok (.iconst 1, 1) := by decide +kernel
theorem dX6_canFeel_36 : decode cX6_canFeel 36 = .ok (.goto 4, 3) := by decide +kernel
theorem dX6_canFeel_39 : decode cX6_canFeel 39 = .ok (.iconst 0, 1) := by decide +kernel
theorem dX6_canFeel_40 : decode cX6_canFeel 40 = .ok (.ireturn, 1) := by decide +kernel
theorem dX6_turns_0 : decode cX6_turns 0 = .ok (.aload_n 0, 1) := by decide +kernel
theorem dX6_turns_1 : decode cX6_turns 1 = .ok (.iload_n 1, 1) := by decide +kernel
theorem dX6_turns_2 : decode cX6_turns 2 = .ok (.iconst 2, 1) := by decide +kernel
theorem dX6_turns_3 : decode cX6_turns 3 = .ok (.iload_n 2, 1) := by decide +kernel
theorem dX6_turns_4 : decode cX6_turns 4 = .ok (.ifCond .le 7, 3) := by decide +kernel
theorem dX6_turns_7 : decode cX6_turns 7 = .ok (.iconst 1, 1) := by decide +kernel
theorem dX6_turns_8 : decode cX6_turns 8 = .ok (.goto 17, 3) := by decide +kernel
theorem dX6_turns_11 : decode cX6_turns 11 = .ok (.iload_n 2, 1) := by decide +kernel
theorem dX6_turns_12 : decode cX6_turns 12 = .ok (.ifCond .ge 7, 3) := by decide +kernel
theorem dX6_turns_15 : decode cX6_turns 15 = .ok (.iconst (-1), 1) := by decide +kernel
theorem dX6_turns_16 : decode cX6_turns 16 = .ok (.goto 9, 3) := by decide +kernel
theorem dX6_turns_19 : decode cX6_turns 19 = .ok (.aload_n 0, 1) := by decide +kernel
theorem dX6_turns_20 : decode cX6_turns 20 = .ok (.iload_n 1, 1) := by decide +kernel
theorem dX6_turns_21 : decode cX6_turns 21 = .ok (.iconst 2, 1) := by decide +kernel
theorem dX6_turns_22 : decode cX6_turns 22 = .ok (.invokevirtual 40, 3) := by decide +kernel
theorem dX6_turns_25 : decode cX6_turns 25 = .ok (.invokevirtual 54, 3) := by decide +kernel
theorem dX6_turns_28 : decode cX6_turns 28 = .ok (.return_, 1) := by decide +kernel
theorem dX6_feels_0 : decode cX6_feels 0 = .ok (.aload_n 0, 1) := by decide +kernel
theorem dX6_feels_1 : decode cX6_feels 1 = .ok (.iload_n 1, 1) := by decide +kernel
theorem dX6_feels_2 : decode cX6_feels 2 = .ok (.iconst 0, 1) := by decide +kernel
theorem dX6_feels_3 : decode cX6_feels 3 = .ok (.invokevirtual 40, 3) := by decide +kernel
theorem dX6_feels_6 : decode cX6_feels 6 = .ok (.istore 4, 2) := by decide +kernel
theorem dX6_feels_8 : decode cX6_feels 8 = .ok (.aload_n 0, 1) := by decide +kernel
theorem dX6_feels_9 : decode cX6_feels 9 = .ok (.iload_n 1, 1) := by decide +kernel
theorem dX6_feels_10 : decode cX6_feels 10 = .ok (.iload_n 2, 1) := by decide +kernel
theorem dX6_feels_11 : decode cX6_feels 11 = .ok (.invokevirtual 48, 3) := by decide +kernel
theorem dX6_feels_14 : decode cX6_feels 14 = .ok (.istore 5, 2) := by decide +kernel
theorem dX6_feels_16 : decode cX6_feels 16 = .ok (.aload_n 0, 1) := by decide +kernel
theorem dX6_feels_17 : decode cX6_feels 17 = .ok (.iload_n 1, 1) := by decide +kernel
theorem dX6_feels_18 : decode cX6_feels 18 = .ok (.bipush 8, 2) := by decide +kernel
theorem dX6_feels_20 : decode cX6_feels 20 = .ok (.invokevirtual 40, 3) := by decide +kernel
theorem dX6_feels_23 : decode cX6_feels 23 = .ok (.bipush 16, 2) := by decide +kernel
theorem dX6_feels_25 : decode cX6_feels 25 = .ok (.if_icmp .ne 57, 3) := by decide +kernel
theorem dX6_feels_28 : decode cX6_feels 28 = .ok (.bipush 57, 2) := by decide +kernel
theorem dX6_feels_30 : decode cX6_feels 30 = .ok (.iload_n 1, 1) := by decide +kernel
theorem dX6_feels_31 : decode cX6_feels 31 = .ok (.imul, 1) := by decide +kernel
theorem dX6_feels_32 : decode cX6_feels 32 = .ok (.bipush 9, 2) := by decide +kernel
theorem dX6_feels_34 : decode cX6_feels 34 = .ok (.iadd, 1) := by decide +kernel
theorem dX6_feels_35 : decode cX6_feels 35 = .ok (.istore 6, 2) := by decide +kernel
theorem dX6_feels_37 : decode cX6_feels 37 = .ok (.iload 6, 2) := by decide +kernel
theorem dX6_feels_39 : decode cX6_feels 39 = .ok (.bipush 57, 2) := by decide +kernel
theorem dX6_feels_41 : decode cX6_feels 41 = .ok (.iload_n 1, 1) := by decide +kernel
theorem dX6_feels_42 : decode cX6_feels 42 = .ok (.imul, 1) := by decide +kernel
theorem dX6_feels_43 : decode cX6_feels 43 = .ok (.bipush 9, 2) := by decide +kernel
theorem dX6_feels_45 : decode cX6_feels 45 = .ok (.iadd, 1) := by decide +kernel
theorem dX6_feels_46 : decode cX6_feels 46 = .ok (.bipush 45, 2) := by decide +kernel
theorem dX6_feels_48 : decode cX6_feels 48 = .ok (.iadd, 1) := by decide +kernel
theorem dX6_feels_49 : decode cX6_feels 49 = .ok (.if_icmp .ge 25, 3) := by decide +kernel
theorem dX6_feels_52 : decode cX6_feels 52 = .ok (.aload_n 0, 1) := by decide +kernel
theorem dX6_feels_53 : decode cX6_feels 53 = .ok (.getfield 7, 3) := by decide +kernel
theorem dX6_feels_56 : decode cX6_feels 56 = .ok (.iload 6, 2) := by decide +kernel
theorem dX6_feels_58 : decode cX6_feels 58 = .ok (.aload_n 0, 1) := by decide +kernel
theorem dX6_feels_59 : decode cX6_feels 59 = .ok (.getfield 7, 3) := by decide +kernel
theorem dX6_feels_62 : decode cX6_feels 62 = .ok (.iload 6, 2) := by decide +kernel
theorem dX6_feels_64 : decode cX6_feels 64 = .ok (.iconst 3, 1) := by decide +kernel
theorem dX6_feels_65 : decode cX6_feels 65 = .ok (.iadd, 1) := by decide +kernel
theorem dX6_feels_66 : decode cX6_feels 66 = .ok (.iaload, 1) := by decide +kernel
theorem dX6_feels_67 : decode cX6_feels 67 = .ok (.iastore, 1) := by decide +kernel
theorem dX6_feels_68 : decode cX6_feels 68 = .ok (.iinc 6 1, 3) := by decide +kernel
theorem dX6_feels_71 : decode cX6_feels 71 = .ok (.goto (-34), 3) := by decide +kernel
theorem dX6_feels_74 : decode cX6_feels 74 = .ok (.aload_n 0, 1) := by decide +kernel
theorem dX6_feels_75 : decode cX6_feels 75 = .ok (.iload_n 1, 1) := by decide +kernel
theorem dX6_feels_76 : decode cX6_feels 76 = .ok (.bipush 8, 2) := by decide +kernel
theorem dX6_feels_78 : decode cX6_feels 78 = .ok (.iconst (-1), 1) := by decide +kernel
theorem dX6_feels_79 : decode cX6_feels 79 = .ok (.invokevirtual 58, 3) := by decide +kernel
theorem dX6_feels_82 : decode cX6_feels 82 = .ok (.bipush 9, 2) := by decide +kernel
theorem dX6_feels_84 : decode cX6_feels 84 = .ok (.iconst 3, 1) := by decide +kernel
theorem dX6_feels_85 : decode cX6_feels 85 = .ok (.aload_n 0, 1) := by decide +kernel
theorem dX6_feels_86 : decode cX6_feels 86 = .ok (.iload_n 1, 1) := by decide +kernel
theorem dX6_feels_87 : decode cX6_feels 87 = .ok (.bipush 8, 2) := by decide +kernel
theorem dX6_feels_89 : decode cX6_feels 89 = .ok (.invokevirtual 40, 3) := by decide +kernel
theorem dX6_feels_92 : decode cX6_feels 92 = .ok (.imul, 1) := by decide +kernel
theorem dX6_feels_93 : decode cX6_feels 93 = .ok (.iadd, 1) := by decide +kernel
theorem dX6_feels_94 : decode cX6_feels 94 = .ok (.istore 6, 2) := by decide +kernel
theorem dX6_feels_96 : decode cX6_feels 96 = .ok (.aload_n 0, 1) := by decide +kernel
theorem dX6_feels_97 : decode cX6_feels 97 = .ok (.iload_n 1, 1) := by decide +kernel
theorem dX6_feels_98 : decode cX6_feels 98 = .ok (.iload 6, 2) := by decide +kernel
theorem dX6_feels_100 : decode cX6_feels 100 = .ok (.iload 5, 2) := by decide +kernel
theorem dX6_feels_102 : decode cX6_feels 102 = .ok (.invokevirtual 54, 3) := by decide +kernel
theorem dX6_feels_105 : decode cX6_feels 105 = .ok (.aload_n 0, 1) := by decide +kernel
theorem dX6_feels_106 : decode cX6_feels 106 = .ok (.iload_n 1, 1) := by decide +kernel
theorem dX6_feels_107 : decode cX6_feels 107 = .ok (.iload 6, 2) := by decide +kernel
theorem dX6_feels_109 : decode cX6_feels 109 = .ok (.iconst 1, 1) := by decide +kernel
theorem dX6_feels_110 : decode cX6_feels 110 = .ok (.iadd, 1) := by decide +kernel
theorem dX6_feels_111 : decode cX6_feels 111 = .ok (.iload_n 3, 1) := by decide +kernel
theorem dX6_feels_112 : decode cX6_feels 112 = .ok (.invokevirtual 54, 3) := by decide +kernel
theorem dX6_feels_115 : decode cX6_feels 115 = .ok (.aload_n 0, 1) := by decide +kernel
theorem dX6_feels_116 : decode cX6_feels 116 = .ok (.iload_n 1, 1) := by decide +kernel
theorem dX6_feels_117 : decode cX6_feels 117 = .ok (.iload 6, 2) := by decide +kernel
theorem dX6_feels_119 : decode cX6_feels 119 = .ok (.iconst 2, 1) := by decide +kernel
theorem dX6_feels_120 : decode cX6_feels 120 = .ok (.iadd, 1) := by decide +kernel
theorem dX6_feels_121 : decode cX6_feels 121 = .ok (.iload 4, 2) := by decide +kernel
theorem dX6_feels_123 : decode cX6_feels 123 = .ok (.invokevirtual 54, 3) := by decide +kernel
theorem dX6_feels_126 : decode cX6_feels 126 = .ok (.aload_n 0, 1) := by decide +kernel
theorem dX6_feels_127 : decode cX6_feels 127 = .ok (.iload_n 1, 1) := by decide +kernel
theorem dX6_feels_128 : decode cX6_feels 128 = .ok (.bipush 8, 2) := by decide +kernel
theorem dX6_feels_130 : decode cX6_feels 130 = .ok (.iconst 1, 1) := by decide +kernel
theorem dX6_feels_131 : decode cX6_feels 131 = .ok (.invokevirtual 58, 3) := by decide +kernel
theorem dX6_feels_134 : decode cX6_feels 134 = .ok (.aload_n 0, 1) := by decide +kernel
theorem dX6_feels_135 : decode cX6_feels 135 = .ok (.iload_n 1, 1) := by decide +kernel
theorem dX6_feels_136 : decode cX6_feels 136 = .ok (.iconst 0, 1) := by decide +kernel
theorem dX6_feels_137 : decode cX6_feels 137 = .ok (.iload_n 2, 1) := by decide +kernel
theorem dX6_feels_138 : decode cX6_feels 138 = .ok (.invokevirtual 54, 3) := by decide +kernel
theorem dX6_feels_141 : decode cX6_feels 141 = .ok (.aload_n 0, 1) := by decide +kernel
theorem dX6_feels_142 : decode cX6_feels 142 = .ok (.iload_n 1, 1) := by decide +kernel
theorem dX6_feels_143 : decode cX6_feels 143 = .ok (.iconst 1, 1) := by decide +kernel
theorem dX6_feels_144 : decode cX6_feels 144 = .ok (.iload 5, 2) := by decide +kernel
theorem dX6_feels_146 : decode cX6_feels 146 = .ok (.invokevirtual 58, 3) := by decide +kernel
theorem dX6_feels_149 : decode cX6_feels 149 = .ok (.aload_n 0, 1) := by decide +kernel
theorem dX6_feels_150 : decode cX6_feels 150 = .ok (.iload_n 1, 1) := by decide +kernel
theorem dX6_feels_151 : decode cX6_feels 151 = .ok (.iconst 3, 1) := by decide +kernel
theorem dX6_feels_152 : decode cX6_feels 152 = .ok (.iload 4, 2) := by decide +kernel
theorem dX6_feels_154 : decode cX6_feels 154 = .ok (.iload_n 2, 1) := by decide +kernel
theorem dX6_feels_155 : decode cX6_feels 155 = .ok (.invokestatic 44, 3) := by decide +kernel
theorem dX6_feels_158 : decode cX6_feels 158 = .ok (.iconst 2, 1) := by decide +kernel
theorem dX6_feels_159 : decode cX6_feels 159 = .ok (.if_icmp .ne 7, 3) := by decide +kernel
theorem dX6_feels_162 : decode cX6_feels 162 = .ok (.iconst 1, 1) := by decide +kernel
theorem dX6_feels_163 : decode cX6_feels 163 = .ok (.goto 4, 3) := by decide +kernel
theorem dX6_feels_166 : decode cX6_feels 166 = .ok (.iconst 0, 1) := by decide +kernel
theorem dX6_feels_167 : decode cX6_feels 167 = .ok (.invokevirtual 58, 3) := by decide +kernel
theorem dX6_feels_170 : decode cX6_feels 170 = .ok (.aload_n 0, 1) := by decide +kernel
theorem dX6_feels_171 : decode cX6_feels 171 = .ok (.iload_n 1, 1) := by decide +kernel
theorem dX6_feels_172 : decode cX6_feels 172 = .ok (.bipush 7, 2) := by decide +kernel
theorem dX6_feels_174 : decode cX6_feels 174 = .ok (.iload 4, 2) := by decide +kernel
theorem dX6_feels_176 : decode cX6_feels 176 = .ok (.iload_n 2, 1) := by decide +kernel
theorem dX6_feels_177 : decode cX6_feels 177 = .ok (.invokestatic 61, 3) := by decide +kernel
theorem dX6_feels_180 : decode cX6_feels 180 = .ok (.ifCond .eq 8, 3) := by decide +kernel
theorem dX6_feels_183 : decode cX6_feels 183 = .ok (.iload 5, 2) := by decide +kernel
theorem dX6_feels_185 : decode cX6_feels 185 = .ok (.goto 4, 3) := by decide +kernel
theorem dX6_feels_188 : decode cX6_feels 188 = .ok (.iconst 0, 1) := by decide +kernel
theorem dX6_feels_189 : decode cX6_feels 189 = .ok (.invokevirtual 58, 3) := by decide +kernel
theorem dX6_feels_192 : decode cX6_feels 192 = .ok (.aload_n 0, 1) := by decide +kernel
theorem dX6_feels_193 : decode cX6_feels 193 = .ok (.iload_n 1, 1) := by decide +kernel
theorem dX6_feels_194 : decode cX6_feels 194 = .ok (.iconst 5, 1) := by decide +kernel
theorem dX6_feels_195 : decode cX6_feels 195 = .ok (.iload 5, 2) := by decide +kernel
theorem dX6_feels_197 : decode cX6_feels 197 = .ok (.invokestatic 51, 3) := by decide +kernel
theorem dX6_feels_200 : decode cX6_feels 200 = .ok (.invokevirtual 58, 3) := by decide +kernel
theorem dX6_feels_203 : decode cX6_feels 203 = .ok (.aload_n 0, 1) := by decide +kernel
theorem dX6_feels_204 : decode cX6_feels 204 = .ok (.iload_n 1, 1) := by decide +kernel
theorem dX6_feels_205 : decode cX6_feels 205 = .ok (.bipush 6, 2) := by decide +kernel
theorem dX6_feels_207 : decode cX6_feels 207 = .ok (.iload_n 3, 1) := by decide +kernel
theorem dX6_feels_208 : decode cX6_feels 208 = .ok (.invokevirtual 58, 3) := by decide +kernel
theorem dX6_feels_211 : decode cX6_feels 211 = .ok (.aload_n 0, 1) := by decide +kernel
theorem dX6_feels_212 : decode cX6_feels 212 = .ok (.iload_n 1, 1) := by decide +kernel
theorem dX6_feels_213 : decode cX6_feels 213 = .ok (.iload 5, 2) := by decide +kernel
theorem dX6_feels_215 : decode cX6_feels 215 = .ok (.invokevirtual 65, 3) := by decide +kernel
theorem dX6_feels_218 : decode cX6_feels 218 = .ok (.iload 5, 2) := by decide +kernel
theorem dX6_feels_220 : decode cX6_feels 220 = .ok (.ireturn, 1) := by decide +kernel
theorem dX6_ahead_0 : decode cX6_ahead 0 = .ok (.iload_n 0, 1) := by decide +kernel
theorem dX6_ahead_1 : decode cX6_ahead 1 = .ok (.invokestatic 36, 3) := by decide +kernel
theorem dX6_ahead_4 : decode cX6_ahead 4 = .ok (.iconst 4, 1) := by decide +kernel
theorem dX6_ahead_5 : decode cX6_ahead 5 = .ok (.iadd, 1) := by decide +kernel
theorem dX6_ahead_6 : decode cX6_ahead 6 = .ok (.iload_n 1, 1) := by decide +kernel
theorem dX6_ahead_7 : decode cX6_ahead 7 = .ok (.iadd, 1) := by decide +kernel
theorem dX6_ahead_8 : decode cX6_ahead 8 = .ok (.invokestatic 69, 3) := by decide +kernel
theorem dX6_ahead_11 : decode cX6_ahead 11 = .ok (.ireturn, 1) := by decide +kernel
theorem dX6_meets_0 : decode cX6_meets 0 = .ok (.aload_n 0, 1) := by decide +kernel
theorem dX6_meets_1 : decode cX6_meets 1 = .ok (.iload_n 1, 1) := by decide +kernel
theorem dX6_meets_2 : decode cX6_meets 2 = .ok (.invokevirtual 72, 3) := by decide +kernel
theorem dX6_meets_5 : decode cX6_meets 5 = .ok (.istore_n 2, 1) := by decide +kernel
theorem dX6_meets_6 : decode cX6_meets 6 = .ok (.iconst 2, 1) := by decide +kernel
theorem dX6_meets_7 : decode cX6_meets 7 = .ok (.iload_n 2, 1) := by decide +kernel
theorem dX6_meets_8 : decode cX6_meets 8 = .ok (.imul, 1) := by decide +kernel
theorem dX6_meets_9 : decode cX6_meets 9 = .ok (.aload_n 0, 1) := by decide +kernel
theorem dX6_meets_10 : decode cX6_meets 10 = .ok (.getfield 7, 3) := by decide +kernel
theorem dX6_meets_13 : decode cX6_meets 13 = .ok (.sipush 229, 3) := by decide +kernel
theorem dX6_meets_16 : decode cX6_meets 16 = .ok (.iaload, 1) := by decide +kernel
theorem dX6_meets_17 : decode cX6_meets 17 = .ok (.if_icmp .gt 7, 3) := by decide +kernel
theorem dX6_meets_20 : decode cX6_meets 20 = .ok (.iload_n 2, 1) := by decide +kernel
theorem dX6_meets_21 : decode cX6_meets 21 = .ok (.goto 13, 3) := by decide +kernel
theorem dX6_meets_24 : decode cX6_meets 24 = .ok (.iload_n 2, 1) := by decide +kernel
theorem dX6_meets_25 : decode cX6_meets 25 = .ok (.aload_n 0, 1) := by decide +kernel
theorem dX6_meets_26 : decode cX6_meets 26 = .ok (.getfield 7, 3) := by decide +kernel
theorem dX6_meets_29 : decode cX6_meets 29 = .ok (.sipush 229, 3) := by decide +kernel
theorem dX6_meets_32 : decode cX6_meets 32 = .ok (.iaload, 1) := by decide +kernel
theorem dX6_meets_33 : decode cX6_meets 33 = .ok (.isub, 1) := by decide +kernel
theorem dX6_meets_34 : decode cX6_meets 34 = .ok (.istore_n 3, 1) := by decide +kernel
theorem dX6_meets_35 : decode cX6_meets 35 = .ok (.aload_n 0, 1) := by decide +kernel
theorem dX6_meets_36 : decode cX6_meets 36 = .ok (.iload_n 1, 1) := by decide +kernel
theorem dX6_meets_37 : decode cX6_meets 37 = .ok (.iconst 1, 1) := by decide +kernel
theorem dX6_meets_38 : decode cX6_meets 38 = .ok (.iload_n 3, 1) := by decide +kernel
theorem dX6_meets_39 : decode cX6_meets 39 = .ok (.ineg, 1) := by decide +kernel
theorem dX6_meets_40 : decode cX6_meets 40 = .ok (.invokevirtual 58, 3) := by decide +kernel
theorem dX6_meets_43 : decode cX6_meets 43 = .ok (.aload_n 0, 1) := by decide +kernel
theorem dX6_meets_44 : decode cX6_meets 44 = .ok (.iload_n 1, 1) := by decide +kernel
theorem dX6_meets_45 : decode cX6_meets 45 = .ok (.iconst 4, 1) := by decide +kernel
theorem dX6_meets_46 : decode cX6_meets 46 = .ok (.iload_n 3, 1) := by decide +kernel
theorem dX6_meets_47 : decode cX6_meets 47 = .ok (.invokestatic 51, 3) := by decide +kernel
theorem dX6_meets_50 : decode cX6_meets 50 = .ok (.invokevirtual 58, 3) := by decide +kernel
theorem dX6_meets_53 : decode cX6_meets 53 = .ok (.iload_n 3, 1) := by decide +kernel
theorem dX6_meets_54 : decode cX6_meets 54 = .ok (.ireturn, 1) := by decide +kernel
theorem dX6_placed_0 : decode cX6_placed 0 = .ok (.aload_n 0, 1) := by decide +kernel
theorem dX6_placed_1 : decode cX6_placed 1 = .ok (.iload_n 1, 1) := by decide +kernel
theorem dX6_placed_2 : decode cX6_placed 2 = .ok (.iconst 1, 1) := by decide +kernel
theorem dX6_placed_3 : decode cX6_placed 3 = .ok (.invokevirtual 40, 3) := by decide +kernel
theorem dX6_placed_6 : decode cX6_placed 6 = .ok (.aload_n 0, 1) := by decide +kernel
theorem dX6_placed_7 : decode cX6_placed 7 = .ok (.getfield 7, 3) := by decide +kernel
theorem dX6_placed_10 : decode cX6_placed 10 = .ok (.sipush 229, 3) := by decide +kernel
theorem dX6_placed_13 : decode cX6_placed 13 = .ok (.iaload, 1) := by decide +kernel
theorem dX6_placed_14 : decode cX6_placed 14 = .ok (.irem, 1) := by decide +kernel
theorem dX6_placed_15 : decode cX6_placed 15 = .ok (.istore_n 2, 1) := by decide +kernel
theorem dX6_placed_16 : decode cX6_placed 16 = .ok (.iload_n 2, 1) := by decide +kernel
theorem dX6_placed_17 : decode cX6_placed 17 = .ok (.ifCond .ge 16, 3) := by decide +kernel
theorem dX6_placed_20 : decode cX6_placed 20 = .ok (.iload_n 2, 1) := by decide +kernel
theorem dX6_placed_21 : decode cX6_placed 21 = .ok (.aload_n 0, 1) := by decide +kernel
theorem dX6_placed_22 : decode cX6_placed 22 = .ok (.getfield 7, 3) := by decide +kernel
theorem dX6_placed_25 : decode cX6_placed 25 = .ok (.sipush 229, 3) := by decide +kernel
theorem dX6_placed_28 : decode cX6_placed 28 = .ok (.iaload, 1) := by decide +kernel
theorem dX6_placed_29 : decode cX6_placed 29 = .ok (.iadd, 1) := by decide +kernel
theorem dX6_placed_30 : decode cX6_placed 30 = .ok (.goto 4, 3) := by decide +kernel
theorem dX6_placed_33 : decode cX6_placed 33 = .ok (.iload_n 2, 1) := by decide +kernel
theorem dX6_placed_34 : decode cX6_placed 34 = .ok (.ireturn, 1) := by decide +kernel
theorem dX6_canGoBack_0 : decode cX6_canGoBack 0 = .ok (.aload_n 0, 1) := by decide +kernel
theorem dX6_canGoBack_1 : decode cX6_canGoBack 1 = .ok (.iload_n 1, 1) := by decide +kernel
theorem dX6_canGoBack_2 : decode cX6_canGoBack 2 = .ok (.bipush 8, 2) := by decide +kernel
theorem dX6_canGoBack_4 : decode cX6_canGoBack 4 = .ok (.invokevirtual 40, 3) := by decide +kernel
theorem dX6_canGoBack_7 : decode cX6_canGoBack 7 = .ok (.iload_n 2, 1) := by decide +kernel
theorem dX6_canGoBack_8 : decode cX6_canGoBack 8 = .ok (.if_icmp .ge 5, 3) := by decide +kernel
theorem dX6_canGoBack_11 : decode cX6_canGoBack 11 = .ok (.iconst 0, 1) := by decide +kernel
theorem dX6_canGoBack_12 : decode cX6_canGoBack 12 = .ok (.ireturn, 1) := by decide +kernel
theorem dX6_canGoBack_13 : decode cX6_canGoBack 13 = .ok (.aload_n 0, 1) := by decide +kernel
theorem dX6_canGoBack_14 : decode cX6_canGoBack 14 = .ok (.iload_n 1, 1) := by decide +kernel
theorem dX6_canGoBack_15 : decode cX6_canGoBack 15 = .ok (.bipush 6, 2) := by decide +kernel
theorem dX6_canGoBack_17 : decode cX6_canGoBack 17 = .ok (.invokevirtual 40, 3) := by decide +kernel
theorem dX6_canGoBack_20 : decode cX6_canGoBack 20 = .ok (.istore_n 3, 1) := by decide +kernel
theorem dX6_canGoBack_21 : decode cX6_canGoBack 21 = .ok (.aload_n 0, 1) := by decide +kernel
theorem dX6_canGoBack_22 : decode cX6_canGoBack 22 = .ok (.iload_n 1, 1) := by decide +kernel
theorem dX6_canGoBack_23 : decode cX6_canGoBack 23 = .ok (.iconst 5, 1) := by decide +kernel
theorem dX6_canGoBack_24 : decode cX6_canGoBack 24 = .ok (.invokevirtual 40, 3) := by decide +kernel
theorem dX6_canGoBack_27 : decode cX6_canGoBack 27 = .ok (.istore 4, 2) := by decide +kernel
theorem dX6_canGoBack_29 : decode cX6_canGoBack 29 = .ok (.aload_n 0, 1) := by decide +kernel
theorem dX6_canGoBack_30 : decode cX6_canGoBack 30 = .ok (.iload_n 1, 1) := by decide +kernel
theorem dX6_canGoBack_31 : decode cX6_canGoBack 31 = .ok (.bipush 8, 2) := by decide +kernel
theorem dX6_canGoBack_33 : decode cX6_canGoBack 33 = .ok (.invokevirtual 40, 3) := by decide +kernel
theorem dX6_canGoBack_36 : decode cX6_canGoBack 36 = .ok (.iload_n 2, 1) := by decide +kernel
theorem dX6_canGoBack_37 : decode cX6_canGoBack 37 = .ok (.isub, 1) := by decide +kernel
theorem dX6_canGoBack_38 : decode cX6_canGoBack 38 = .ok (.istore 5, 2) := by decide +kernel
theorem dX6_canGoBack_40 : decode cX6_canGoBack 40 = .ok (.iload 5, 2) := by decide +kernel
theorem dX6_canGoBack_42 : decode cX6_canGoBack 42 = .ok (.aload_n 0, 1) := by decide +kernel
theorem dX6_canGoBack_43 : decode cX6_canGoBack 43 = .ok (.iload_n 1, 1) := by decide +kernel
theorem dX6_canGoBack_44 : decode cX6_canGoBack 44 = .ok (.bipush 8, 2) := by decide +kernel
theorem dX6_canGoBack_46 : decode cX6_canGoBack 46 = .ok (.invokevirtual 40, 3) := by decide +kernel
theorem dX6_canGoBack_49 : decode cX6_canGoBack 49 = .ok (.if_icmp .ge 46, 3) := by decide +kernel
theorem dX6_canGoBack_52 : decode cX6_canGoBack 52 = .ok (.iload 4, 2) := by decide +kernel
theorem dX6_canGoBack_54 : decode cX6_canGoBack 54 = .ok (.aload_n 0, 1) := by decide +kernel
theorem dX6_canGoBack_55 : decode cX6_canGoBack 55 = .ok (.iload_n 1, 1) := by decide +kernel
theorem dX6_canGoBack_56 : decode cX6_canGoBack 56 = .ok (.bipush 9, 2) := by decide +kernel
theorem dX6_canGoBack_58 : decode cX6_canGoBack 58 = .ok (.iconst 3, 1) := by decide +kernel
theorem dX6_canGoBack_59 : decode cX6_canGoBack 59 = .ok (.iload 5, 2) := by decide +kernel
theorem dX6_canGoBack_61 : decode cX6_canGoBack 61 = .ok (.imul, 1) := by decide +kernel
theorem dX6_canGoBack_62 : decode cX6_canGoBack 62 = .ok (.iadd, 1) := by decide +kernel
theorem dX6_canGoBack_63 : decode cX6_canGoBack 63 = .ok (.invokevirtual 40, 3) := by decide +kernel
theorem dX6_canGoBack_66 : decode cX6_canGoBack 66 = .ok (.invokestatic 51, 3) := by decide +kernel
theorem dX6_canGoBack_69 : decode cX6_canGoBack 69 = .ok (.iadd, 1) := by decide +kernel
theorem dX6_canGoBack_70 : decode cX6_canGoBack 70 = .ok (.istore 4, 2) := by decide +kernel
theorem dX6_canGoBack_72 : decode cX6_canGoBack 72 = .ok (.iload_n 3, 1) := by decide +kernel
theorem dX6_canGoBack_73 : decode cX6_canGoBack 73 = .ok (.aload_n 0, 1) := by decide +kernel
theorem dX6_canGoBack_74 : decode cX6_canGoBack 74 = .ok (.iload_n 1, 1) := by decide +kernel
theorem dX6_canGoBack_75 : decode cX6_canGoBack 75 = .ok (.bipush 9, 2) := by decide +kernel
theorem dX6_canGoBack_77 : decode cX6_canGoBack 77 = .ok (.iconst 3, 1) := by decide +kernel
theorem dX6_canGoBack_78 : decode cX6_canGoBack 78 = .ok (.iload 5, 2) := by decide +kernel
theorem dX6_canGoBack_80 : decode cX6_canGoBack 80 = .ok (.imul, 1) := by decide +kernel
theorem dX6_canGoBack_81 : decode cX6_canGoBack 81 = .ok (.iadd, 1) := by decide +kernel
theorem dX6_canGoBack_82 : decode cX6_canGoBack 82 = .ok (.iconst 1, 1) := by decide +kernel
theorem dX6_canGoBack_83 : decode cX6_canGoBack 83 = .ok (.iadd, 1) := by decide +kernel
theorem dX6_canGoBack_84 : decode cX6_canGoBack 84 = .ok (.invokevirtual 40, 3) := by decide +kernel
theorem dX6_canGoBack_87 : decode cX6_canGoBack 87 = .ok (.iadd, 1) := by decide +kernel
theorem dX6_canGoBack_88 : decode cX6_canGoBack 88 = .ok (.istore_n 3, 1) := by decide +kernel
theorem dX6_canGoBack_89 : decode cX6_canGoBack 89 = .ok (.iinc 5 1, 3) := by decide +kernel
theorem dX6_canGoBack_92 : decode cX6_canGoBack 92 = .ok (.goto (-52), 3) := by decide +kernel
theorem dX6_canGoBack_95 : decode cX6_canGoBack 95 = .ok (.iload_n 3, 1) := by decide +kernel
theorem dX6_canGoBack_96 : decode cX6_canGoBack 96 = .ok (.ldc 47, 2) := by decide +kernel
theorem dX6_canGoBack_98 : decode cX6_canGoBack 98 = .ok (.if_icmp .gt 14, 3) := by decide +kernel
theorem dX6_canGoBack_101 : decode cX6_canGoBack 101 = .ok (.iload 4, 2) := by decide +kernel
theorem dX6_canGoBack_103 : decode cX6_canGoBack 103 = .ok (.ldc 47, 2) := by decide +kernel
theorem dX6_canGoBack_105 : decode cX6_canGoBack 105 = .ok (.if_icmp .gt 7, 3) := by decide +kernel
theorem dX6_canGoBack_108 : decode cX6_canGoBack 108 = .ok (.iconst 1, 1) := by decide +kernel
theorem dX6_canGoBack_109 : decode cX6_canGoBack 109 = .ok (.goto 4, 3) := by decide +kernel
theorem dX6_canGoBack_112 : decode cX6_canGoBack 112 = .ok (.iconst 0, 1) := by decide +kernel
theorem dX6_canGoBack_113 : decode cX6_canGoBack 113 = .ok (.ireturn, 1) := by decide +kernel
theorem dX6_goesBack_0 : decode cX6_goesBack 0 = .ok (.iconst 0, 1) := by decide +kernel
theorem dX6_goesBack_1 : decode cX6_goesBack 1 = .ok (.istore_n 3, 1) := by decide +kernel
theorem dX6_goesBack_2 : decode cX6_goesBack 2 = .ok (.iload_n 3, 1) := by decide +kernel
theorem dX6_goesBack_3 : decode cX6_goesBack 3 = .ok (.iload_n 2, 1) := by decide +kernel
theorem dX6_goesBack_4 : decode cX6_goesBack 4 = .ok (.if_icmp .ge 159, 3) := by decide +kernel
theorem dX6_goesBack_7 : decode cX6_goesBack 7 = .ok (.aload_n 0, 1) := by decide +kernel
theorem dX6_goesBack_8 : decode cX6_goesBack 8 = .ok (.iload_n 1, 1) := by decide +kernel
theorem dX6_goesBack_9 : decode cX6_goesBack 9 = .ok (.bipush 8, 2) := by decide +kernel
theorem dX6_goesBack_11 : decode cX6_goesBack 11 = .ok (.iconst (-1), 1) := by decide +kernel
theorem dX6_goesBack_12 : decode cX6_goesBack 12 = .ok (.invokevirtual 58, 3) := by decide +kernel
theorem dX6_goesBack_15 : decode cX6_goesBack 15 = .ok (.bipush 9, 2) := by decide +kernel
theorem dX6_goesBack_17 : decode cX6_goesBack 17 = .ok (.iconst 3, 1) := by decide +kernel
theorem dX6_goesBack_18 : decode cX6_goesBack 18 = .ok (.aload_n 0, 1) := by decide +kernel
theorem dX6_goesBack_19 : decode cX6_goesBack 19 = .ok (.iload_n 1, 1) := by decide +kernel
theorem dX6_goesBack_20 : decode cX6_goesBack 20 = .ok (.bipush 8, 2) := by decide +kernel
theorem dX6_goesBack_22 : decode cX6_goesBack 22 = .ok (.invokevirtual 40, 3) := by decide +kernel
theorem dX6_goesBack_25 : decode cX6_goesBack 25 = .ok (.imul, 1) := by decide +kernel
theorem dX6_goesBack_26 : decode cX6_goesBack 26 = .ok (.iadd, 1) := by decide +kernel
theorem dX6_goesBack_27 : decode cX6_goesBack 27 = .ok (.istore 4, 2) := by decide +kernel
theorem dX6_goesBack_29 : decode cX6_goesBack 29 = .ok (.aload_n 0, 1) := by decide +kernel
theorem dX6_goesBack_30 : decode cX6_goesBack 30 = .ok (.iload_n 1, 1) := by decide +kernel
theorem dX6_goesBack_31 : decode cX6_goesBack 31 = .ok (.iload 4, 2) := by decide +kernel
theorem dX6_goesBack_33 : decode cX6_goesBack 33 = .ok (.invokevirtual 40, 3) := by decide +kernel
theorem dX6_goesBack_36 : decode cX6_goesBack 36 = .ok (.istore 5, 2) := by decide +kernel
theorem dX6_goesBack_38 : decode cX6_goesBack 38 = .ok (.aload_n 0, 1) := by decide +kernel
theorem dX6_goesBack_39 : decode cX6_goesBack 39 = .ok (.iload_n 1, 1) := by decide +kernel
theorem dX6_goesBack_40 : decode cX6_goesBack 40 = .ok (.iload 4, 2) := by decide +kernel
theorem dX6_goesBack_42 : decode cX6_goesBack 42 = .ok (.iconst 2, 1) := by decide +kernel
theorem dX6_goesBack_43 : decode cX6_goesBack 43 = .ok (.iadd, 1) := by decide +kernel
theorem dX6_goesBack_44 : decode cX6_goesBack 44 = .ok (.invokevirtual 40, 3) := by decide +kernel
theorem dX6_goesBack_47 : decode cX6_goesBack 47 = .ok (.istore 6, 2) := by decide +kernel
theorem dX6_goesBack_49 : decode cX6_goesBack 49 = .ok (.aload_n 0, 1) := by decide +kernel
theorem dX6_goesBack_50 : decode cX6_goesBack 50 = .ok (.iload_n 1, 1) := by decide +kernel
theorem dX6_goesBack_51 : decode cX6_goesBack 51 = .ok (.bipush 7, 2) := by decide +kernel
theorem dX6_goesBack_53 : decode cX6_goesBack 53 = .ok (.iload 6, 2) := by decide +kernel
theorem dX6_goesBack_55 : decode cX6_goesBack 55 = .ok (.aload_n 0, 1) := by decide +kernel
theorem dX6_goesBack_56 : decode cX6_goesBack 56 = .ok (.iload_n 1, 1) := by decide +kernel
theorem dX6_goesBack_57 : decode cX6_goesBack 57 = .ok (.iconst 0, 1) := by decide +kernel
theorem dX6_goesBack_58 : decode cX6_goesBack 58 = .ok (.invokevirtual 40, 3) := by decide +kernel
theorem dX6_goesBack_61 : decode cX6_goesBack 61 = .ok (.invokestatic 61, 3) := by decide +kernel
theorem dX6_goesBack_64 : decode cX6_goesBack 64 = .ok (.ifCond .eq 9, 3) := by decide +kernel
theorem dX6_goesBack_67 : decode cX6_goesBack 67 = .ok (.iload 5, 2) := by decide +kernel
theorem dX6_goesBack_69 : decode cX6_goesBack 69 = .ok (.ineg, 1) := by decide +kernel
theorem dX6_goesBack_70 : decode cX6_goesBack 70 = .ok (.goto 4, 3) := by decide +kernel
theorem dX6_goesBack_73 : decode cX6_goesBack 73 = .ok (.iconst 0, 1) := by decide +kernel
theorem dX6_goesBack_74 : decode cX6_goesBack 74 = .ok (.invokevirtual 58, 3) := by decide +kernel
theorem dX6_goesBack_77 : decode cX6_goesBack 77 = .ok (.aload_n 0, 1) := by decide +kernel
theorem dX6_goesBack_78 : decode cX6_goesBack 78 = .ok (.iload_n 1, 1) := by decide +kernel
theorem dX6_goesBack_79 : decode cX6_goesBack 79 = .ok (.iconst 1, 1) := by decide +kernel
theorem dX6_goesBack_80 : decode cX6_goesBack 80 = .ok (.iload 5, 2) := by decide +kernel
theorem dX6_goesBack_82 : decode cX6_goesBack 82 = .ok (.ineg, 1) := by decide +kernel
theorem dX6_goesBack_83 : decode cX6_goesBack 83 = .ok (.invokevirtual 58, 3) := by decide +kernel
theorem dX6_goesBack_86 : decode cX6_goesBack 86 = .ok (.aload_n 0, 1) := by decide +kernel
theorem dX6_goesBack_87 : decode cX6_goesBack 87 = .ok (.iload_n 1, 1) := by decide +kernel
theorem dX6_goesBack_88 : decode cX6_goesBack 88 = .ok (.iconst 5, 1) := by decide +kernel
theorem dX6_goesBack_89 : decode cX6_goesBack 89 = .ok (.iload 5, 2) := by decide +kernel
theorem dX6_goesBack_91 : decode cX6_goesBack 91 = .ok (.invokestatic 51, 3) := by decide +kernel
theorem dX6_goesBack_94 : decode cX6_goesBack 94 = .ok (.invokevirtual 58, 3) := by decide +kernel
theorem dX6_goesBack_97 : decode cX6_goesBack 97 = .ok (.aload_n 0, 1) := by decide +kernel
theorem dX6_goesBack_98 : decode cX6_goesBack 98 = .ok (.iload_n 1, 1) := by decide +kernel
theorem dX6_goesBack_99 : decode cX6_goesBack 99 = .ok (.bipush 6, 2) := by decide +kernel
theorem dX6_goesBack_101 : decode cX6_goesBack 101 = .ok (.aload_n 0, 1) := by decide +kernel
theorem dX6_goesBack_102 : decode cX6_goesBack 102 = .ok (.iload_n 1, 1) := by decide +kernel
theorem dX6_goesBack_103 : decode cX6_goesBack 103 = .ok (.iload 4, 2) := by decide +kernel
theorem dX6_goesBack_105 : decode cX6_goesBack 105 = .ok (.iconst 1, 1) := by decide +kernel
theorem dX6_goesBack_106 : decode cX6_goesBack 106 = .ok (.iadd, 1) := by decide +kernel
theorem dX6_goesBack_107 : decode cX6_goesBack 107 = .ok (.invokevirtual 40, 3) := by decide +kernel
theorem dX6_goesBack_110 : decode cX6_goesBack 110 = .ok (.invokevirtual 58, 3) := by decide +kernel
theorem dX6_goesBack_113 : decode cX6_goesBack 113 = .ok (.aload_n 0, 1) := by decide +kernel
theorem dX6_goesBack_114 : decode cX6_goesBack 114 = .ok (.iload_n 1, 1) := by decide +kernel
theorem dX6_goesBack_115 : decode cX6_goesBack 115 = .ok (.iconst 0, 1) := by decide +kernel
theorem dX6_goesBack_116 : decode cX6_goesBack 116 = .ok (.iload 6, 2) := by decide +kernel
theorem dX6_goesBack_118 : decode cX6_goesBack 118 = .ok (.invokevirtual 54, 3) := by decide +kernel
theorem dX6_goesBack_121 : decode cX6_goesBack 121 = .ok (.aload_n 0, 1) := by decide +kernel
theorem dX6_goesBack_122 : decode cX6_goesBack 122 = .ok (.iload_n 1, 1) := by decide +kernel
theorem dX6_goesBack_123 : decode cX6_goesBack 123 = .ok (.iload 5, 2) := by decide +kernel
theorem dX6_goesBack_125 : decode cX6_goesBack 125 = .ok (.ineg, 1) := by decide +kernel
theorem dX6_goesBack_126 : decode cX6_goesBack 126 = .ok (.invokevirtual 65, 3) := by decide +kernel
theorem dX6_goesBack_129 : decode cX6_goesBack 129 = .ok (.aload_n 0, 1) := by decide +kernel
theorem dX6_goesBack_130 : decode cX6_goesBack 130 = .ok (.iload_n 1, 1) := by decide +kernel
theorem dX6_goesBack_131 : decode cX6_goesBack 131 = .ok (.iload 4, 2) := by decide +kernel
theorem dX6_goesBack_133 : decode cX6_goesBack 133 = .ok (.iconst 0, 1) := by decide +kernel
theorem dX6_goesBack_134 : decode cX6_goesBack 134 = .ok (.invokevirtual 54, 3) := by decide +kernel
theorem dX6_goesBack_137 : decode cX6_goesBack 137 = .ok (.aload_n 0, 1) := by decide +kernel
theorem dX6_goesBack_138 : decode cX6_goesBack 138 = .ok (.iload_n 1, 1) := by decide +kernel
theorem dX6_goesBack_139 : decode cX6_goesBack 139 = .ok (.iload 4, 2) := by decide +kernel
theorem dX6_goesBack_141 : decode cX6_goesBack 141 = .ok (.iconst 1, 1) := by decide +kernel
theorem dX6_goesBack_142 : decode cX6_goesBack 142 = .ok (.iadd, 1) := by decide +kernel
theorem dX6_goesBack_143 : decode cX6_goesBack 143 = .ok (.iconst 0, 1) := by decide +kernel
theorem dX6_goesBack_144 : decode cX6_goesBack 144 = .ok (.invokevirtual 54, 3) := by decide +kernel
theorem dX6_goesBack_147 : decode cX6_goesBack 147 = .ok (.aload_n 0, 1) := by decide +kernel
theorem dX6_goesBack_148 : decode cX6_goesBack 148 = .ok (.iload_n 1, 1) := by decide +kernel
theorem dX6_goesBack_149 : decode cX6_goesBack 149 = .ok (.iload 4, 2) := by decide +kernel
theorem dX6_goesBack_151 : decode cX6_goesBack 151 = .ok (.iconst 2, 1) := by decide +kernel
theorem dX6_goesBack_152 : decode cX6_goesBack 152 = .ok (.iadd, 1) := by decide +kernel
theorem dX6_goesBack_153 : decode cX6_goesBack 153 = .ok (.iconst 0, 1) := by decide +kernel
theorem dX6_goesBack_154 : decode cX6_goesBack 154 = .ok (.invokevirtual 54, 3) := by decide +kernel
theorem dX6_goesBack_157 : decode cX6_goesBack 157 = .ok (.iinc 3 1, 3) := by decide +kernel
theorem dX6_goesBack_160 : decode cX6_goesBack 160 = .ok (.goto (-158), 3) := by decide +kernel
theorem dX6_goesBack_163 : decode cX6_goesBack 163 = .ok (.aload_n 0, 1) := by decide +kernel
theorem dX6_goesBack_164 : decode cX6_goesBack 164 = .ok (.iload_n 1, 1) := by decide +kernel
theorem dX6_goesBack_165 : decode cX6_goesBack 165 = .ok (.iconst 1, 1) := by decide +kernel
theorem dX6_goesBack_166 : decode cX6_goesBack 166 = .ok (.invokevirtual 40, 3) := by decide +kernel
theorem dX6_goesBack_169 : decode cX6_goesBack 169 = .ok (.ireturn, 1) := by decide +kernel
theorem dX6_feel_0 : decode cX6_feel 0 = .ok (.aload_n 0, 1) := by decide +kernel
theorem dX6_feel_1 : decode cX6_feel 1 = .ok (.iload_n 1, 1) := by decide +kernel
theorem dX6_feel_2 : decode cX6_feel 2 = .ok (.invokevirtual 75, 3) := by decide +kernel
theorem dX6_feel_5 : decode cX6_feel 5 = .ok (.ifCond .ne 5, 3) := by decide +kernel
theorem dX6_feel_8 : decode cX6_feel 8 = .ok (.iconst 0, 1) := by decide +kernel
theorem dX6_feel_9 : decode cX6_feel 9 = .ok (.ireturn, 1) := by decide +kernel
theorem dX6_feel_10 : decode cX6_feel 10 = .ok (.iload_n 2, 1) := by decide +kernel
theorem dX6_feel_11 : decode cX6_feel 11 = .ok (.iconst 0, 1) := by decide +kernel
theorem dX6_feel_12 : decode cX6_feel 12 = .ok (.iconst 3, 1) := by decide +kernel
theorem dX6_feel_13 : decode cX6_feel 13 = .ok (.invokestatic 29, 3) := by decide +kernel
theorem dX6_feel_16 : decode cX6_feel 16 = .ok (.ifCond .eq 14, 3) := by decide +kernel
theorem dX6_feel_19 : decode cX6_feel 19 = .ok (.iload_n 3, 1) := by decide +kernel
theorem dX6_feel_20 : decode cX6_feel 20 = .ok (.iconst 1, 1) := by decide +kernel
theorem dX6_feel_21 : decode cX6_feel 21 = .ok (.sipush 1000, 3) := by decide +kernel
theorem dX6_feel_24 : decode cX6_feel 24 = .ok (.invokestatic 29, 3) := by decide +kernel
theorem dX6_feel_27 : decode cX6_feel 27 = .ok (.ifCond .ne 9, 3) := by decide +kernel
theorem dX6_feel_30 : decode cX6_feel 30 = .ok (.aload_n 0, 1) := by decide +kernel
theorem dX6_feel_31 : decode cX6_feel 31 = .ok (.iconst 2, 1) := by decide +kernel
theorem dX6_feel_32 : decode cX6_feel 32 = .ok (.invokevirtual 79, 3) := by decide +kernel
theorem dX6_feel_35 : decode cX6_feel 35 = .ok (.ireturn, 1) := by decide +kernel
theorem dX6_feel_36 : decode cX6_feel 36 = .ok (.aload_n 0, 1) := by decide +kernel
theorem dX6_feel_37 : decode cX6_feel 37 = .ok (.iload_n 1, 1) := by decide +kernel
theorem dX6_feel_38 : decode cX6_feel 38 = .ok (.iload_n 2, 1) := by decide +kernel
theorem dX6_feel_39 : decode cX6_feel 39 = .ok (.iload_n 3, 1) := by decide +kernel
theorem dX6_feel_40 : decode cX6_feel 40 = .ok (.invokevirtual 82, 3) := by decide +kernel
theorem dX6_feel_43 : decode cX6_feel 43 = .ok (.ifCond .ne 9, 3) := by decide +kernel
theorem dX6_feel_46 : decode cX6_feel 46 = .ok (.aload_n 0, 1) := by decide +kernel
theorem dX6_feel_47 : decode cX6_feel 47 = .ok (.iconst 3, 1) := by decide +kernel
theorem dX6_feel_48 : decode cX6_feel 48 = .ok (.invokevirtual 79, 3) := by decide +kernel
theorem dX6_feel_51 : decode cX6_feel 51 = .ok (.ireturn, 1) := by decide +kernel
theorem dX6_feel_52 : decode cX6_feel 52 = .ok (.aload_n 0, 1) := by decide +kernel
theorem dX6_feel_53 : decode cX6_feel 53 = .ok (.invokevirtual 85, 3) := by decide +kernel
theorem dX6_feel_56 : decode cX6_feel 56 = .ok (.aload_n 0, 1) := by decide +kernel
theorem dX6_feel_57 : decode cX6_feel 57 = .ok (.iload_n 1, 1) := by decide +kernel
theorem dX6_feel_58 : decode cX6_feel 58 = .ok (.iload_n 2, 1) := by decide +kernel
theorem dX6_feel_59 : decode cX6_feel 59 = .ok (.iload_n 3, 1) := by decide +kernel
theorem dX6_feel_60 : decode cX6_feel 60 = .ok (.invokevirtual 88, 3) := by decide +kernel
theorem dX6_feel_63 : decode cX6_feel 63 = .ok (.ireturn, 1) := by decide +kernel
theorem dX6_crawl_0 : decode cX6_crawl 0 = .ok (.aload_n 0, 1) := by decide +kernel
theorem dX6_crawl_1 : decode cX6_crawl 1 = .ok (.iload_n 1, 1) := by decide +kernel
theorem dX6_crawl_2 : decode cX6_crawl 2 = .ok (.invokevirtual 75, 3) := by decide +kernel
theorem dX6_crawl_5 : decode cX6_crawl 5 = .ok (.ifCond .ne 5, 3) := by decide +kernel
theorem dX6_crawl_8 : decode cX6_crawl 8 = .ok (.iconst 0, 1) := by decide +kernel
theorem dX6_crawl_9 : decode cX6_crawl 9 = .ok (.ireturn, 1) := by decide +kernel
theorem dX6_crawl_10 : decode cX6_crawl 10 = .ok (.iload_n 2, 1) := by decide +kernel
theorem dX6_crawl_11 : decode cX6_crawl 11 = .ok (.bipush (-100), 2) := by decide +kernel
theorem dX6_crawl_13 : decode cX6_crawl 13 = .ok (.bipush 100, 2) := by decide +kernel
theorem dX6_crawl_15 : decode cX6_crawl 15 = .ok (.invokestatic 29, 3) := by decide +kernel
theorem dX6_crawl_18 : decode cX6_crawl 18 = .ok (.ifCond .ne 9, 3) := by decide +kernel
theorem dX6_crawl_21 : decode cX6_crawl 21 = .ok (.aload_n 0, 1) := by decide +kernel
theorem dX6_crawl_22 : decode cX6_crawl 22 = .ok (.iconst 2, 1) := by decide +kernel
theorem dX6_crawl_23 : decode cX6_crawl 23 = .ok (.invokevirtual 79, 3) := by decide +kernel
theorem dX6_crawl_26 : decode cX6_crawl 26 = .ok (.ireturn, 1) := by decide +kernel
theorem dX6_crawl_27 : decode cX6_crawl 27 = .ok (.aload_n 0, 1) := by decide +kernel
theorem dX6_crawl_28 : decode cX6_crawl 28 = .ok (.iload_n 1, 1) := by decide +kernel
theorem dX6_crawl_29 : decode cX6_crawl 29 = .ok (.bipush 6, 2) := by decide +kernel
theorem dX6_crawl_31 : decode cX6_crawl 31 = .ok (.invokevirtual 40, 3) := by decide +kernel
theorem dX6_crawl_34 : decode cX6_crawl 34 = .ok (.iload_n 2, 1) := by decide +kernel
theorem dX6_crawl_35 : decode cX6_crawl 35 = .ok (.invokestatic 51, 3) := by decide +kernel
theorem dX6_crawl_38 : decode cX6_crawl 38 = .ok (.iadd, 1) := by decide +kernel
theorem dX6_crawl_39 : decode cX6_crawl 39 = .ok (.ldc 47, 2) := by decide +kernel
theorem dX6_crawl_41 : decode cX6_crawl 41 = .ok (.if_icmp .gt 19, 3) := by decide +kernel
theorem dX6_crawl_44 : decode cX6_crawl 44 = .ok (.aload_n 0, 1) := by decide +kernel
theorem dX6_crawl_45 : decode cX6_crawl 45 = .ok (.iload_n 1, 1) := by decide +kernel
theorem dX6_crawl_46 : decode cX6_crawl 46 = .ok (.iconst 5, 1) := by decide +kernel
theorem dX6_crawl_47 : decode cX6_crawl 47 = .ok (.invokevirtual 40, 3) := by decide +kernel
theorem dX6_crawl_50 : decode cX6_crawl 50 = .ok (.iload_n 2, 1) := by decide +kernel
theorem dX6_crawl_51 : decode cX6_crawl 51 = .ok (.invokestatic 51, 3) := by decide +kernel
theorem dX6_crawl_54 : decode cX6_crawl 54 = .ok (.iadd, 1) := by decide +kernel
theorem dX6_crawl_55 : decode cX6_crawl 55 = .ok (.ldc 47, 2) := by decide +kernel
theorem dX6_crawl_57 : decode cX6_crawl 57 = .ok (.if_icmp .le 9, 3) := by decide +kernel
theorem dX6_crawl_60 : decode cX6_crawl 60 = .ok (.aload_n 0, 1) := by decide +kernel
theorem dX6_crawl_61 : decode cX6_crawl 61 = .ok (.iconst 3, 1) := by decide +kernel
theorem dX6_crawl_62 : decode cX6_crawl 62 = .ok (.invokevirtual 79, 3) := by decide +kernel
theorem dX6_crawl_65 : decode cX6_crawl 65 = .ok (.ireturn, 1) := by decide +kernel
theorem dX6_crawl_66 : decode cX6_crawl 66 = .ok (.aload_n 0, 1) := by decide +kernel
theorem dX6_crawl_67 : decode cX6_crawl 67 = .ok (.invokevirtual 85, 3) := by decide +kernel
theorem dX6_crawl_70 : decode cX6_crawl 70 = .ok (.iconst 0, 1) := by decide +kernel
theorem dX6_crawl_71 : decode cX6_crawl 71 = .ok (.istore_n 3, 1) := by decide +kernel
theorem dX6_crawl_72 : decode cX6_crawl 72 = .ok (.iload_n 3, 1) := by decide +kernel
theorem dX6_crawl_73 : decode cX6_crawl 73 = .ok (.iload_n 2, 1) := by decide +kernel
theorem dX6_crawl_74 : decode cX6_crawl 74 = .ok (.invokestatic 51, 3) := by decide +kernel
theorem dX6_crawl_77 : decode cX6_crawl 77 = .ok (.if_icmp .ge 35, 3) := by decide +kernel
theorem dX6_crawl_80 : decode cX6_crawl 80 = .ok (.aload_n 0, 1) := by decide +kernel
theorem dX6_crawl_81 : decode cX6_crawl 81 = .ok (.iload_n 1, 1) := by decide +kernel
theorem dX6_crawl_82 : decode cX6_crawl 82 = .ok (.aload_n 0, 1) := by decide +kernel
theorem dX6_crawl_83 : decode cX6_crawl 83 = .ok (.iload_n 1, 1) := by decide +kernel
theorem dX6_crawl_84 : decode cX6_crawl 84 = .ok (.iconst 0, 1) := by decide +kernel
theorem dX6_crawl_85 : decode cX6_crawl 85 = .ok (.invokevirtual 40, 3) := by decide +kernel
theorem dX6_crawl_88 : decode cX6_crawl 88 = .ok (.iload_n 2, 1) := by decide +kernel
theorem dX6_crawl_89 : decode cX6_crawl 89 = .ok (.ifCond .ge 7, 3) := by decide +kernel
theorem dX6_crawl_92 : decode cX6_crawl 92 = .ok (.iconst (-1), 1) := by decide +kernel
theorem dX6_crawl_93 : decode cX6_crawl 93 = .ok (.goto 4, 3) := by decide +kernel
theorem dX6_crawl_96 : decode cX6_crawl 96 = .ok (.iconst 1, 1) := by decide +kernel
theorem dX6_crawl_97 : decode cX6_crawl 97 = .ok (.invokestatic 92, 3) := by decide +kernel
theorem dX6_crawl_100 : decode cX6_crawl 100 = .ok (.iconst 1, 1) := by decide +kernel
theorem dX6_crawl_101 : decode cX6_crawl 101 = .ok (.invokevirtual 88, 3) := by decide +kernel
theorem dX6_crawl_104 : decode cX6_crawl 104 = .ok (.istore 4, 2) := by decide +kernel
theorem dX6_crawl_106 : decode cX6_crawl 106 = .ok (.iinc 3 1, 3) := by decide +kernel
theorem dX6_crawl_109 : decode cX6_crawl 109 = .ok (.goto (-37), 3) := by decide +kernel
theorem dX6_crawl_112 : decode cX6_crawl 112 = .ok (.aload_n 0, 1) := by decide +kernel
theorem dX6_crawl_113 : decode cX6_crawl 113 = .ok (.iload_n 1, 1) := by decide +kernel
theorem dX6_crawl_114 : decode cX6_crawl 114 = .ok (.iconst 1, 1) := by decide +kernel
theorem dX6_crawl_115 : decode cX6_crawl 115 = .ok (.invokevirtual 40, 3) := by decide +kernel
theorem dX6_crawl_118 : decode cX6_crawl 118 = .ok (.ireturn, 1) := by decide +kernel
theorem dX6_meetMark_0 : decode cX6_meetMark 0 = .ok (.aload_n 0, 1) := by decide +kernel
theorem dX6_meetMark_1 : decode cX6_meetMark 1 = .ok (.iload_n 1, 1) := by decide +kernel
theorem dX6_meetMark_2 : decode cX6_meetMark 2 = .ok (.invokevirtual 75, 3) := by decide +kernel
theorem dX6_meetMark_5 : decode cX6_meetMark 5 = .ok (.ifCond .ne 5, 3) := by decide +kernel
theorem dX6_meetMark_8 : decode cX6_meetMark 8 = .ok (.iconst 0, 1) := by decide +kernel
theorem dX6_meetMark_9 : decode cX6_meetMark 9 = .ok (.ireturn, 1) := by decide +kernel
theorem dX6_meetMark_10 : decode cX6_meetMark 10 = .ok (.aload_n 0, 1) := by decide +kernel
theorem dX6_meetMark_11 : decode cX6_meetMark 11 = .ok (.invokevirtual 85, 3) := by decide +kernel
theorem dX6_meetMark_14 : decode cX6_meetMark 14 = .ok (.aload_n 0, 1) := by decide +kernel
theorem dX6_meetMark_15 : decode cX6_meetMark 15 = .ok (.iload_n 1, 1) := by decide +kernel
theorem dX6_meetMark_16 : decode cX6_meetMark 16 = .ok (.invokevirtual 95, 3) := by decide +kernel
theorem dX6_meetMark_19 : decode cX6_meetMark 19 = .ok (.ireturn, 1) := by decide +kernel
theorem dX6_goBack_0 : decode cX6_goBack 0 = .ok (.aload_n 0, 1) := by decide +kernel
theorem dX6_goBack_1 : decode cX6_goBack 1 = .ok (.iload_n 1, 1) := by decide +kernel
theorem dX6_goBack_2 : decode cX6_goBack 2 = .ok (.invokevirtual 75, 3) := by decide +kernel
theorem dX6_goBack_5 : decode cX6_goBack 5 = .ok (.ifCond .ne 5, 3) := by decide +kernel
theorem dX6_goBack_8 : decode cX6_goBack 8 = .ok (.iconst 0, 1) := by decide +kernel
theorem dX6_goBack_9 : decode cX6_goBack 9 = .ok (.ireturn, 1) := by decide +kernel
theorem dX6_goBack_10 : decode cX6_goBack 10 = .ok (.iload_n 2, 1) := by decide +kernel
theorem dX6_goBack_11 : decode cX6_goBack 11 = .ok (.iconst 1, 1) := by decide +kernel
theorem dX6_goBack_12 : decode cX6_goBack 12 = .ok (.bipush 16, 2) := by decide +kernel
theorem dX6_goBack_14 : decode cX6_goBack 14 = .ok (.invokestatic 29, 3) := by decide +kernel
theorem dX6_goBack_17 : decode cX6_goBack 17 = .ok (.ifCond .ne 9, 3) := by decide +kernel
theorem dX6_goBack_20 : decode cX6_goBack 20 = .ok (.aload_n 0, 1) := by decide +kernel
theorem dX6_goBack_21 : decode cX6_goBack 21 = .ok (.iconst 2, 1) := by decide +kernel
theorem dX6_goBack_22 : decode cX6_goBack 22 = .ok (.invokevirtual 79, 3) := by decide +kernel
theorem dX6_goBack_25 : decode cX6_goBack 25 = .ok (.ireturn, 1) := by decide +kernel
theorem dX6_goBack_26 : decode cX6_goBack 26 = .ok (.aload_n 0, 1) := by decide +kernel
theorem dX6_goBack_27 : decode cX6_goBack 27 = .ok (.iload_n 1, 1) := by decide +kernel
theorem dX6_goBack_28 : decode cX6_goBack 28 = .ok (.iload_n 2, 1) := by decide +kernel
theorem dX6_goBack_29 : decode cX6_goBack 29 = .ok (.invokevirtual 98, 3) := by decide +kernel
theorem dX6_goBack_32 : decode cX6_goBack 32 = .ok (.ifCond .ne 9, 3) := by decide +kernel
theorem dX6_goBack_35 : decode cX6_goBack 35 = .ok (.aload_n 0, 1) := by decide +kernel
theorem dX6_goBack_36 : decode cX6_goBack 36 = .ok (.iconst 3, 1) := by decide +kernel
theorem dX6_goBack_37 : decode cX6_goBack 37 = .ok (.invokevirtual 79, 3) := by decide +kernel
theorem dX6_goBack_40 : decode cX6_goBack 40 = .ok (.ireturn, 1) := by decide +kernel
theorem dX6_goBack_41 : decode cX6_goBack 41 = .ok (.aload_n 0, 1) := by decide +kernel
theorem dX6_goBack_42 : decode cX6_goBack 42 = .ok (.invokevirtual 85, 3) := by decide +kernel
theorem dX6_goBack_45 : decode cX6_goBack 45 = .ok (.aload_n 0, 1) := by decide +kernel
theorem dX6_goBack_46 : decode cX6_goBack 46 = .ok (.iload_n 1, 1) := by decide +kernel
theorem dX6_goBack_47 : decode cX6_goBack 47 = .ok (.iload_n 2, 1) := by decide +kernel
theorem dX6_goBack_48 : decode cX6_goBack 48 = .ok (.invokevirtual 101, 3) := by decide +kernel
theorem dX6_goBack_51 : decode cX6_goBack 51 = .ok (.ireturn, 1) := by decide +kernel
theorem dX6_setRule_0 : decode cX6_setRule 0 = .ok (.aload_n 0, 1) := by decide +kernel
theorem dX6_setRule_1 : decode cX6_setRule 1 = .ok (.iconst 0, 1) := by decide +kernel
theorem dX6_setRule_2 : decode cX6_setRule 2 = .ok (.putfield 25, 3) := by decide +kernel
theorem dX6_setRule_5 : decode cX6_setRule 5 = .ok (.iload_n 1, 1) := by decide +kernel
theorem dX6_setRule_6 : decode cX6_setRule 6 = .ok (.iconst 0, 1) := by decide +kernel
theorem dX6_setRule_7 : decode cX6_setRule 7 = .ok (.iconst 1, 1) := by decide +kernel
theorem dX6_setRule_8 : decode cX6_setRule 8 = .ok (.invokestatic 29, 3) := by decide +kernel
theorem dX6_setRule_11 : decode cX6_setRule 11 = .ok (.ifCond .ne 9, 3) := by decide +kernel
theorem dX6_setRule_14 : decode cX6_setRule 14 = .ok (.aload_n 0, 1) := by decide +kernel
theorem dX6_setRule_15 : decode cX6_setRule 15 = .ok (.iconst 1, 1) := by decide +kernel
theorem dX6_setRule_16 : decode cX6_setRule 16 = .ok (.invokevirtual 79, 3) := by decide +kernel
theorem dX6_setRule_19 : decode cX6_setRule 19 = .ok (.ireturn, 1) := by decide +kernel
theorem dX6_setRule_20 : decode cX6_setRule 20 = .ok (.aload_n 0, 1) := by decide +kernel
theorem dX6_setRule_21 : decode cX6_setRule 21 = .ok (.invokevirtual 85, 3) := by decide +kernel
theorem dX6_setRule_24 : decode cX6_setRule 24 = .ok (.aload_n 0, 1) := by decide +kernel
theorem dX6_setRule_25 : decode cX6_setRule 25 = .ok (.getfield 7, 3) := by decide +kernel
theorem dX6_setRule_28 : decode cX6_setRule 28 = .ok (.sipush 228, 3) := by decide +kernel
theorem dX6_setRule_31 : decode cX6_setRule 31 = .ok (.iaload, 1) := by decide +kernel
theorem dX6_setRule_32 : decode cX6_setRule 32 = .ok (.istore_n 2, 1) := by decide +kernel
theorem dX6_setRule_33 : decode cX6_setRule 33 = .ok (.aload_n 0, 1) := by decide +kernel
theorem dX6_setRule_34 : decode cX6_setRule 34 = .ok (.getfield 7, 3) := by decide +kernel
theorem dX6_setRule_37 : decode cX6_setRule 37 = .ok (.sipush 228, 3) := by decide +kernel
theorem dX6_setRule_40 : decode cX6_setRule 40 = .ok (.iload_n 1, 1) := by decide +kernel
theorem dX6_setRule_41 : decode cX6_setRule 41 = .ok (.iastore, 1) := by decide +kernel
theorem dX6_setRule_42 : decode cX6_setRule 42 = .ok (.iload_n 2, 1) := by decide +kernel
theorem dX6_setRule_43 : decode cX6_setRule 43 = .ok (.ireturn, 1) := by decide +kernel
theorem dX6_setCounts_0 : decode cX6_setCounts 0 = .ok (.aload_n 0, 1) := by decide +kernel
theorem dX6_setCounts_1 : decode cX6_setCounts 1 = .ok (.iconst 0, 1) := by decide +kernel
theorem dX6_setCounts_2 : decode cX6_setCounts 2 = .ok (.putfield 25, 3) := by decide +kernel
theorem dX6_setCounts_5 : decode cX6_setCounts 5 = .ok (.iload_n 1, 1) := by decide +kernel
theorem dX6_setCounts_6 : decode cX6_setCounts 6 = .ok (.iconst 4, 1) := by decide +kernel
theorem dX6_setCounts_7 : decode cX6_setCounts 7 = .ok (.sipush 400, 3) := by decide +kernel
theorem dX6_setCounts_10 : decode cX6_setCounts 10 = .ok (.invokestatic 29, 3) := by decide +kernel
theorem dX6_setCounts_13 : decode cX6_setCounts 13 = .ok (.ifCond .eq 9, 3) := by decide +kernel
theorem dX6_setCounts_16 : decode cX6_setCounts 16 = .ok (.iload_n 1, 1) := by decide +kernel
theorem dX6_setCounts_17 : decode cX6_setCounts 17 = .ok (.iconst 4, 1) := by decide +kernel
theorem dX6_setCounts_18 : decode cX6_setCounts 18 = .ok (.irem, 1) := by decide +kernel
theorem dX6_setCounts_19 : decode cX6_setCounts 19 = .ok (.ifCond .eq 9, 3) := by decide +kernel
theorem dX6_setCounts_22 : decode cX6_setCounts 22 = .ok (.aload_n 0, 1) := by decide +kernel
theorem dX6_setCounts_23 : decode cX6_setCounts 23 = .ok (.iconst 1, 1) := by decide +kernel
theorem dX6_setCounts_24 : decode cX6_setCounts 24 = .ok (.invokevirtual 79, 3) := by decide +kernel
theorem dX6_setCounts_27 : decode cX6_setCounts 27 = .ok (.ireturn, 1) := by decide +kernel
theorem dX6_setCounts_28 : decode cX6_setCounts 28 = .ok (.aload_n 0, 1) := by decide +kernel
theorem dX6_setCounts_29 : decode cX6_setCounts 29 = .ok (.invokevirtual 85, 3) := by decide +kernel
theorem dX6_setCounts_32 : decode cX6_setCounts 32 = .ok (.aload_n 0, 1) := by decide +kernel
theorem dX6_setCounts_33 : decode cX6_setCounts 33 = .ok (.getfield 7, 3) := by decide +kernel
theorem dX6_setCounts_36 : decode cX6_setCounts 36 = .ok (.sipush 229, 3) := by decide +kernel
theorem dX6_setCounts_39 : decode cX6_setCounts 39 = .ok (.iaload, 1) := by decide +kernel
theorem dX6_setCounts_40 : decode cX6_setCounts 40 = .ok (.istore_n 2, 1) := by decide +kernel
theorem dX6_setCounts_41 : decode cX6_setCounts 41 = .ok (.aload_n 0, 1) := by decide +kernel
theorem dX6_setCounts_42 : decode cX6_setCounts 42 = .ok (.getfield 7, 3) := by decide +kernel
theorem dX6_setCounts_45 : decode cX6_setCounts 45 = .ok (.sipush 229, 3) := by decide +kernel
theorem dX6_setCounts_48 : decode cX6_setCounts 48 = .ok (.iload_n 1, 1) := by decide +kernel
theorem dX6_setCounts_49 : decode cX6_setCounts 49 = .ok (.iastore, 1) := by decide +kernel
theorem dX6_setCounts_50 : decode cX6_setCounts 50 = .ok (.iload_n 2, 1) := by decide +kernel
theorem dX6_setCounts_51 : decode cX6_setCounts 51 = .ok (.ireturn, 1) := by decide +kernel
theorem dX6_type_0 : decode cX6_type 0 = .ok (.aload_n 0, 1) := by decide +kernel
theorem dX6_type_1 : decode cX6_type 1 = .ok (.iconst 0, 1) := by decide +kernel
theorem dX6_type_2 : decode cX6_type 2 = .ok (.putfield 25, 3) := by decide +kernel
theorem dX6_type_5 : decode cX6_type 5 = .ok (.aload_n 0, 1) := by decide +kernel
theorem dX6_type_6 : decode cX6_type 6 = .ok (.getfield 104, 3) := by decide +kernel
theorem dX6_type_9 : decode cX6_type 9 = .ok (.bipush 80, 2) := by decide +kernel
theorem dX6_type_11 : decode cX6_type 11 = .ok (.if_icmp .ne 9, 3) := by decide +kernel
theorem dX6_type_14 : decode cX6_type 14 = .ok (.aload_n 0, 1) := by decide +kernel
theorem dX6_type_15 : decode cX6_type 15 = .ok (.iconst 1, 1) := by decide +kernel
theorem dX6_type_16 : decode cX6_type 16 = .ok (.invokevirtual 79, 3) := by decide +kernel
theorem dX6_type_19 : decode cX6_type 19 = .ok (.ireturn, 1) := by decide +kernel
theorem dX6_type_20 : decode cX6_type 20 = .ok (.aload_n 0, 1) := by decide +kernel
theorem dX6_type_21 : decode cX6_type 21 = .ok (.getfield 22, 3) := by decide +kernel
theorem dX6_type_24 : decode cX6_type 24 = .ok (.aload_n 0, 1) := by decide +kernel
theorem dX6_type_25 : decode cX6_type 25 = .ok (.getfield 104, 3) := by decide +kernel
theorem dX6_type_28 : decode cX6_type 28 = .ok (.iload_n 1, 1) := by decide +kernel
theorem dX6_type_29 : decode cX6_type 29 = .ok (.iastore, 1) := by decide +kernel
theorem dX6_type_30 : decode cX6_type 30 = .ok (.aload_n 0, 1) := by decide +kernel
theorem dX6_type_31 : decode cX6_type 31 = .ok (.dup, 1) := by decide +kernel
theorem dX6_type_32 : decode cX6_type 32 = .ok (.getfield 104, 3) := by decide +kernel
theorem dX6_type_35 : decode cX6_type 35 = .ok (.iconst 1, 1) := by decide +kernel
theorem dX6_type_36 : decode cX6_type 36 = .ok (.iadd, 1) := by decide +kernel
theorem dX6_type_37 : decode cX6_type 37 = .ok (.putfield 104, 3) := by decide +kernel
theorem dX6_type_40 : decode cX6_type 40 = .ok (.aload_n 0, 1) := by decide +kernel
theorem dX6_type_41 : decode cX6_type 41 = .ok (.getfield 104, 3) := by decide +kernel
theorem dX6_type_44 : decode cX6_type 44 = .ok (.ireturn, 1) := by decide +kernel
theorem dX6_clearText_0 : decode cX6_clearText 0 = .ok (.aload_n 0, 1) := by decide +kernel
theorem dX6_clearText_1 : decode cX6_clearText 1 = .ok (.iconst 0, 1) := by decide +kernel
theorem dX6_clearText_2 : decode cX6_clearText 2 = .ok (.putfield 25, 3) := by decide +kernel
theorem dX6_clearText_5 : decode cX6_clearText 5 = .ok (.aload_n 0, 1) := by decide +kernel
theorem dX6_clearText_6 : decode cX6_clearText 6 = .ok (.getfield 104, 3) := by decide +kernel
theorem dX6_clearText_9 : decode cX6_clearText 9 = .ok (.istore_n 1, 1) := by decide +kernel
theorem dX6_clearText_10 : decode cX6_clearText 10 = .ok (.aload_n 0, 1) := by decide +kernel
theorem dX6_clearText_11 : decode cX6_clearText 11 = .ok (.iconst 0, 1) := by decide +kernel
theorem dX6_clearText_12 : decode cX6_clearText 12 = .ok (.putfield 104, 3) := by decide +kernel
theorem dX6_clearText_15 : decode cX6_clearText 15 = .ok (.iload_n 1, 1) := by decide +kernel
theorem dX6_clearText_16 : decode cX6_clearText 16 = .ok (.ireturn, 1) := by decide +kernel
theorem dX6_sign_0 : decode cX6_sign 0 = .ok (.aload_n 0, 1) := by decide +kernel
theorem dX6_sign_1 : decode cX6_sign 1 = .ok (.getfield 107, 3) := by decide +kernel
theorem dX6_sign_4 : decode cX6_sign 4 = .ok (.aload_n 0, 1) := by decide +kernel
theorem dX6_sign_5 : decode cX6_sign 5 = .ok (.getfield 104, 3) := by decide +kernel
theorem dX6_sign_8 : decode cX6_sign 8 = .ok (.if_icmp .ge 22, 3) := by decide +kernel
theorem dX6_sign_11 : decode cX6_sign 11 = .ok (.aload_n 0, 1) := by decide +kernel
theorem dX6_sign_12 : decode cX6_sign 12 = .ok (.getfield 110, 3) := by decide +kernel
theorem dX6_sign_15 : decode cX6_sign 15 = .ok (.ifCond .ne 15, 3) := by decide +kernel
theorem dX6_sign_18 : decode cX6_sign 18 = .ok (.aload_n 0, 1) := by decide +kernel
theorem dX6_sign_19 : decode cX6_sign 19 = .ok (.getfield 22, 3) := by decide +kernel
theorem dX6_sign_22 : decode cX6_sign 22 = .ok (.aload_n 0, 1) := by decide +kernel
theorem dX6_sign_23 : decode cX6_sign 23 = .ok (.getfield 107, 3) := by decide +kernel
theorem dX6_sign_26 : decode cX6_sign 26 = .ok (.iaload, 1) := by decide +kernel
theorem dX6_sign_27 : decode cX6_sign 27 = .ok (.goto 4, 3) := by decide +kernel
theorem dX6_sign_30 : decode cX6_sign 30 = .ok (.iconst 0, 1) := by decide +kernel
theorem dX6_sign_31 : decode cX6_sign 31 = .ok (.istore_n 3, 1) := by decide +kernel
theorem dX6_sign_32 : decode cX6_sign 32 = .ok (.aload_n 0, 1) := by decide +kernel
theorem dX6_sign_33 : decode cX6_sign 33 = .ok (.aload_n 0, 1) := by decide +kernel
theorem dX6_sign_34 : decode cX6_sign 34 = .ok (.getfield 110, 3) := by decide +kernel
theorem dX6_sign_37 : decode cX6_sign 37 = .ok (.ifCond .ne 12, 3) := by decide +kernel
theorem dX6_sign_40 : decode cX6_sign 40 = .ok (.iload_n 3, 1) := by decide +kernel
theorem dX6_sign_41 : decode cX6_sign 41 = .ok (.iload_n 1, 1) := by decide +kernel
theorem dX6_sign_42 : decode cX6_sign 42 = .ok (.iload_n 2, 1) := by decide +kernel
theorem dX6_sign_43 : decode cX6_sign 43 = .ok (.invokestatic 29, 3) := by decide +kernel
theorem dX6_sign_46 : decode cX6_sign 46 = .ok (.ifCond .ne 7, 3) := by decide +kernel
theorem dX6_sign_49 : decode cX6_sign 49 = .ok (.iconst 1, 1) := by decide +kernel
theorem dX6_sign_50 : decode cX6_sign 50 = .ok (.goto 4, 3) := by decide +kernel
theorem dX6_sign_53 : decode cX6_sign 53 = .ok (.iconst 0, 1) := by decide +kernel
theorem dX6_sign_54 : decode cX6_sign 54 = .ok (.putfield 110, 3) := by decide +kernel
theorem dX6_sign_57 : decode cX6_sign 57 = .ok (.aload_n 0, 1) := by decide +kernel
theorem dX6_sign_58 : decode cX6_sign 58 = .ok (.dup, 1) := by decide +kernel
theorem dX6_sign_59 : decode cX6_sign 59 = .ok (.getfield 107, 3) := by decide +kernel
theorem dX6_sign_62 : decode cX6_sign 62 = .ok (.aload_n 0, 1) := by decide +kernel
theorem dX6_sign_63 : decode cX6_sign 63 = .ok (.getfield 110, 3) := by decide +kernel
theorem dX6_sign_66 : decode cX6_sign 66 = .ok (.ifCond .eq 7, 3) := by decide +kernel
theorem dX6_sign_69 : decode cX6_sign 69 = .ok (.iconst 0, 1) := by decide +kernel
theorem dX6_sign_70 : decode cX6_sign 70 = .ok (.goto 4, 3) := by decide +kernel
theorem dX6_sign_73 : decode cX6_sign 73 = .ok (.iconst 1, 1) := by decide +kernel
theorem dX6_sign_74 : decode cX6_sign 74 = .ok (.iadd, 1) := by decide +kernel
theorem dX6_sign_75 : decode cX6_sign 75 = .ok (.putfield 107, 3) := by decide +kernel
theorem dX6_sign_78 : decode cX6_sign 78 = .ok (.iload_n 3, 1) := by decide +kernel
theorem dX6_sign_79 : decode cX6_sign 79 = .ok (.ireturn, 1) := by decide +kernel
theorem dX6_isNext_0 : decode cX6_isNext 0 = .ok (.aload_n 0, 1) := by decide +kernel
theorem dX6_isNext_1 : decode cX6_isNext 1 = .ok (.getfield 110, 3) := by decide +kernel
theorem dX6_isNext_4 : decode cX6_isNext 4 = .ok (.ifCond .ne 35, 3) := by decide +kernel
theorem dX6_isNext_7 : decode cX6_isNext 7 = .ok (.aload_n 0, 1) := by decide +kernel
theorem dX6_isNext_8 : decode cX6_isNext 8 = .ok (.getfield 107, 3) := by decide +kernel
theorem dX6_isNext_11 : decode cX6_isNext 11 = .ok (.aload_n 0, 1) := by decide +kernel
theorem dX6_isNext_12 : decode cX6_isNext 12 = .ok (.getfield 104, 3) := by decide +kernel
theorem dX6_isNext_15 : decode cX6_isNext 15 = .ok (.if_icmp .ge 24, 3) := by decide +kernel
theorem dX6_isNext_18 : decode cX6_isNext 18 = .ok (.aload_n 0, 1) := by decide +kernel
theorem dX6_isNext_19 : decode cX6_isNext 19 = .ok (.getfield 22, 3) := by decide +kernel
theorem dX6_isNext_22 : decode cX6_isNext 22 = .ok (.aload_n 0, 1) := by decide +kernel
theorem dX6_isNext_23 : decode cX6_isNext 23 = .ok (.getfield 107, 3) := by decide +kernel
theorem dX6_isNext_26 : decode cX6_isNext 26 = .ok (.iaload, 1) := by decide +kernel
theorem dX6_isNext_27 : decode cX6_isNext 27 = .ok (.iload_n 1, 1) := by decide +kernel
theorem dX6_isNext_28 : decode cX6_isNext 28 = .ok (.iload_n 2, 1) := by decide +kernel
theorem dX6_isNext_29 : decode cX6_isNext 29 = .ok (.invokestatic 29, 3) := by decide +kernel
theorem dX6_isNext_32 : decode cX6_isNext 32 = .ok (.ifCond .eq 7, 3) := by decide +kernel
theorem dX6_isNext_35 : decode cX6_isNext 35 = .ok (.iconst 1, 1) := by decide +kernel
theorem dX6_isNext_36 : decode cX6_isNext 36 = .ok (.goto 4, 3) := by decide +kernel
theorem dX6_isNext_39 : decode cX6_isNext 39 = .ok (.iconst 0, 1) := by decide +kernel
theorem dX6_isNext_40 : decode cX6_isNext 40 = .ok (.ireturn, 1) := by decide +kernel
theorem dX6_isFelt_0 : decode cX6_isFelt 0 = .ok (.aload_n 0, 1) := by decide +kernel
theorem dX6_isFelt_1 : decode cX6_isFelt 1 = .ok (.bipush 48, 2) := by decide +kernel
theorem dX6_isFelt_3 : decode cX6_isFelt 3 = .ok (.bipush 51, 2) := by decide +kernel
theorem dX6_isFelt_5 : decode cX6_isFelt 5 = .ok (.invokevirtual 114, 3) := by decide +kernel
theorem dX6_isFelt_8 : decode cX6_isFelt 8 = .ok (.bipush 48, 2) := by decide +kernel
theorem dX6_isFelt_10 : decode cX6_isFelt 10 = .ok (.isub, 1) := by decide +kernel
theorem dX6_isFelt_11 : decode cX6_isFelt 11 = .ok (.istore_n 3, 1) := by decide +kernel
theorem dX6_isFelt_12 : decode cX6_isFelt 12 = .ok (.aload_n 0, 1) := by decide +kernel
theorem dX6_isFelt_13 : decode cX6_isFelt 13 = .ok (.getfield 110, 3) := by decide +kernel
theorem dX6_isFelt_16 : decode cX6_isFelt 16 = .ok (.ifCond .ne 7, 3) := by decide +kernel
theorem dX6_isFelt_19 : decode cX6_isFelt 19 = .ok (.iload_n 2, 1) := by decide +kernel
theorem dX6_isFelt_20 : decode cX6_isFelt 20 = .ok (.ifCond .ne 5, 3) := by decide +kernel
theorem dX6_isFelt_23 : decode cX6_isFelt 23 = .ok (.iconst 1, 1) := by decide +kernel
theorem dX6_isFelt_24 : decode cX6_isFelt 24 = .ok (.ireturn, 1) := by decide +kernel
theorem dX6_isFelt_25 : decode cX6_isFelt 25 = .ok (.aload_n 0, 1) := by decide +kernel
theorem dX6_isFelt_26 : decode cX6_isFelt 26 = .ok (.iload_n 1, 1) := by decide +kernel
theorem dX6_isFelt_27 : decode cX6_isFelt 27 = .ok (.iload_n 3, 1) := by decide +kernel
theorem dX6_isFelt_28 : decode cX6_isFelt 28 = .ok (.iconst 1, 1) := by decide +kernel
theorem dX6_isFelt_29 : decode cX6_isFelt 29 = .ok (.invokevirtual 82, 3) := by decide +kernel
theorem dX6_isFelt_32 : decode cX6_isFelt 32 = .ok (.istore 4, 2) := by decide +kernel
theorem dX6_isFelt_34 : decode cX6_isFelt 34 = .ok (.iload 4, 2) := by decide +kernel
theorem dX6_isFelt_36 : decode cX6_isFelt 36 = .ok (.ifCond .eq 13, 3) := by decide +kernel
theorem dX6_isFelt_39 : decode cX6_isFelt 39 = .ok (.aload_n 0, 1) := by decide +kernel
theorem dX6_isFelt_40 : decode cX6_isFelt 40 = .ok (.iload_n 1, 1) := by decide +kernel
theorem dX6_isFelt_41 : decode cX6_isFelt 41 = .ok (.iload_n 3, 1) := by decide +kernel
theorem dX6_isFelt_42 : decode cX6_isFelt 42 = .ok (.iconst 1, 1) := by decide +kernel
theorem dX6_isFelt_43 : decode cX6_isFelt 43 = .ok (.invokevirtual 88, 3) := by decide +kernel
theorem dX6_isFelt_46 : decode cX6_isFelt 46 = .ok (.goto 4, 3) := by decide +kernel
theorem dX6_isFelt_49 : decode cX6_isFelt 49 = .ok (.iconst 0, 1) := by decide +kernel
theorem dX6_isFelt_50 : decode cX6_isFelt 50 = .ok (.istore 5, 2) := by decide +kernel
theorem dX6_isFelt_52 : decode cX6_isFelt 52 = .ok (.iload 4, 2) := by decide +kernel
theorem dX6_isFelt_54 : decode cX6_isFelt 54 = .ok (.ireturn, 1) := by decide +kernel
theorem dX6_isOrdered_0 : decode cX6_isOrdered 0 = .ok (.aload_n 0, 1) := by decide +kernel
theorem dX6_isOrdered_1 : decode cX6_isOrdered 1 = .ok (.bipush 48, 2) := by decide +kernel
theorem dX6_isOrdered_3 : decode cX6_isOrdered 3 = .ok (.bipush 51, 2) := by decide +kernel
theorem dX6_isOrdered_5 : decode cX6_isOrdered 5 = .ok (.invokevirtual 114, 3) := by decide +kernel
theorem dX6_isOrdered_8 : decode cX6_isOrdered 8 = .ok (.bipush 48, 2) := by decide +kernel
theorem dX6_isOrdered_10 : decode cX6_isOrdered 10 = .ok (.isub, 1) := by decide +kernel
theorem dX6_isOrdered_11 : decode cX6_isOrdered 11 = .ok (.istore_n 2, 1) := by decide +kernel
theorem dX6_isOrdered_12 : decode cX6_isOrdered 12 = .ok (.aload_n 0, 1) := by decide +kernel
theorem dX6_isOrdered_13 : decode cX6_isOrdered 13 = .ok (.bipush 58, 2) := by decide +kernel
theorem dX6_isOrdered_15 : decode cX6_isOrdered 15 = .ok (.bipush 58, 2) := by decide +kernel
theorem dX6_isOrdered_17 : decode cX6_isOrdered 17 = .ok (.invokevirtual 117, 3) := by decide +kernel
theorem dX6_isOrdered_20 : decode cX6_isOrdered 20 = .ok (.ifCond .eq 47, 3) := by decide +kernel
theorem dX6_isOrdered_23 : decode cX6_isOrdered 23 = .ok (.aload_n 0, 1) := by decide +kernel
theorem dX6_isOrdered_24 : decode cX6_isOrdered 24 = .ok (.dup, 1) := by decide +kernel
theorem dX6_isOrdered_25 : decode cX6_isOrdered 25 = .ok (.getfield 107, 3) := by decide +kernel
theorem dX6_isOrdered_28 : decode cX6_isOrdered 28 = .ok (.iconst 1, 1) := by decide +kernel
theorem dX6_isOrdered_29 : decode cX6_isOrdered 29 = .ok (.iadd, 1) := by decide +kernel
theorem dX6_isOrdered_30 : decode cX6_isOrdered 30 = .ok (.putfield 107, 3) := by decide +kernel
theorem dX6_isOrdered_33 : decode cX6_isOrdered 33 = .ok (.aload_n 0, 1) := by decide +kernel
theorem dX6_isOrdered_34 : decode cX6_isOrdered 34 = .ok (.iload_n 2, 1) := by decide +kernel
theorem dX6_isOrdered_35 : decode cX6_isOrdered 35 = .ok (.iload_n 1, 1) := by decide +kernel
theorem dX6_isOrdered_36 : decode cX6_isOrdered 36 = .ok (.invokevirtual 120, 3) := by decide +kernel
theorem dX6_isOrdered_39 : decode cX6_isOrdered 39 = .ok (.istore_n 3, 1) := by decide +kernel
theorem dX6_isOrdered_40 : decode cX6_isOrdered 40 = .ok (.iload_n 3, 1) := by decide +kernel
theorem dX6_isOrdered_41 : decode cX6_isOrdered 41 = .ok (.ifCond .eq 24, 3) := by decide +kernel
theorem dX6_isOrdered_44 : decode cX6_isOrdered 44 = .ok (.aload_n 0, 1) := by decide +kernel
theorem dX6_isOrdered_45 : decode cX6_isOrdered 45 = .ok (.bipush 48, 2) := by decide +kernel
theorem dX6_isOrdered_47 : decode cX6_isOrdered 47 = .ok (.bipush 51, 2) := by decide +kernel
theorem dX6_isOrdered_49 : decode cX6_isOrdered 49 = .ok (.invokevirtual 117, 3) := by decide +kernel
theorem dX6_isOrdered_52 : decode cX6_isOrdered 52 = .ok (.ifCond .eq 13, 3) := by decide +kernel
theorem dX6_isOrdered_55 : decode cX6_isOrdered 55 = .ok (.aload_n 0, 1) := by decide +kernel
theorem dX6_isOrdered_56 : decode cX6_isOrdered 56 = .ok (.iload_n 2, 1) := by decide +kernel
theorem dX6_isOrdered_57 : decode cX6_isOrdered 57 = .ok (.iload_n 1, 1) := by decide +kernel
theorem dX6_isOrdered_58 : decode cX6_isOrdered 58 = .ok (.invokevirtual 120, 3) := by decide +kernel
theorem dX6_isOrdered_61 : decode cX6_isOrdered 61 = .ok (.istore_n 3, 1) := by decide +kernel
theorem dX6_isOrdered_62 : decode cX6_isOrdered 62 = .ok (.goto (-22), 3) := by decide +kernel
theorem dX6_isOrdered_65 : decode cX6_isOrdered 65 = .ok (.iload_n 3, 1) := by decide +kernel
theorem dX6_isOrdered_66 : decode cX6_isOrdered 66 = .ok (.ireturn, 1) := by decide +kernel
theorem dX6_isOrdered_67 : decode cX6_isOrdered 67 = .ok (.aload_n 0, 1) := by decide +kernel
theorem dX6_isOrdered_68 : decode cX6_isOrdered 68 = .ok (.bipush 109, 2) := by decide +kernel
theorem dX6_isOrdered_70 : decode cX6_isOrdered 70 = .ok (.bipush 109, 2) := by decide +kernel
theorem dX6_isOrdered_72 : decode cX6_isOrdered 72 = .ok (.invokevirtual 117, 3) := by decide +kernel
theorem dX6_isOrdered_75 : decode cX6_isOrdered 75 = .ok (.ifCond .eq 29, 3) := by decide +kernel
theorem dX6_isOrdered_78 : decode cX6_isOrdered 78 = .ok (.aload_n 0, 1) := by decide +kernel
theorem dX6_isOrdered_79 : decode cX6_isOrdered 79 = .ok (.dup, 1) := by decide +kernel
theorem dX6_isOrdered_80 : decode cX6_isOrdered 80 = .ok (.getfield 107, 3) := by decide +kernel
theorem dX6_isOrdered_83 : decode cX6_isOrdered 83 = .ok (.iconst 1, 1) := by decide +kernel
theorem dX6_isOrdered_84 : decode cX6_isOrdered 84 = .ok (.iadd, 1) := by decide +kernel
theorem dX6_isOrdered_85 : decode cX6_isOrdered 85 = .ok (.putfield 107, 3) := by decide +kernel
theorem dX6_isOrdered_88 : decode cX6_isOrdered 88 = .ok (.iload_n 1, 1) := by decide +kernel
theorem dX6_isOrdered_89 : decode cX6_isOrdered 89 = .ok (.ifCond .eq 11, 3) := by decide +kernel
theorem dX6_isOrdered_92 : decode cX6_isOrdered 92 = .ok (.aload_n 0, 1) := by decide +kernel
theorem dX6_isOrdered_93 : decode cX6_isOrdered 93 = .ok (.iload_n 2, 1) := by decide +kernel
theorem dX6_isOrdered_94 : decode cX6_isOrdered 94 = .ok (.invokevirtual 95, 3) := by decide +kernel
theorem dX6_isOrdered_97 : decode cX6_isOrdered 97 = .ok (.goto 4, 3) := by decide +kernel
theorem dX6_isOrdered_100 : decode cX6_isOrdered 100 = .ok (.iconst 0, 1) := by decide +kernel
theorem dX6_isOrdered_101 : decode cX6_isOrdered 101 = .ok (.istore_n 3, 1) := by decide +kernel
theorem dX6_isOrdered_102 : decode cX6_isOrdered 102 = .ok (.iconst 1, 1) := by decide +kernel
theorem dX6_isOrdered_103 : decode cX6_isOrdered 103 = .ok (.ireturn, 1) := by decide +kernel
theorem dX6_isOrdered_104 : decode cX6_isOrdered 104 = .ok (.aload_n 0, 1) := by decide +kernel
theorem dX6_isOrdered_105 : decode cX6_isOrdered 105 = .ok (.bipush 98, 2) := by decide +kernel
theorem dX6_isOrdered_107 : decode cX6_isOrdered 107 = .ok (.bipush 98, 2) := by decide +kernel
theorem dX6_isOrdered_109 : decode cX6_isOrdered 109 = .ok (.invokevirtual 114, 3) := by decide +kernel
theorem dX6_isOrdered_112 : decode cX6_isOrdered 112 = .ok (.istore_n 3, 1) := by decide +kernel
theorem dX6_isOrdered_113 : decode cX6_isOrdered 113 = .ok (.aload_n 0, 1) := by decide +kernel
theorem dX6_isOrdered_114 : decode cX6_isOrdered 114 = .ok (.bipush 49, 2) := by decide +kernel
theorem dX6_isOrdered_116 : decode cX6_isOrdered 116 = .ok (.bipush 57, 2) := by decide +kernel
theorem dX6_isOrdered_118 : decode cX6_isOrdered 118 = .ok (.invokevirtual 114, 3) := by decide +kernel
theorem dX6_isOrdered_121 : decode cX6_isOrdered 121 = .ok (.bipush 48, 2) := by decide +kernel
theorem dX6_isOrdered_123 : decode cX6_isOrdered 123 = .ok (.isub, 1) := by decide +kernel
theorem dX6_isOrdered_124 : decode cX6_isOrdered 124 = .ok (.istore 4, 2) := by decide +kernel
theorem dX6_isOrdered_126 : decode cX6_isOrdered 126 = .ok (.iload 4, 2) := by decide +kernel
theorem dX6_isOrdered_128 : decode cX6_isOrdered 128 = .ok (.iconst 1, 1) := by decide +kernel
theorem dX6_isOrdered_129 : decode cX6_isOrdered 129 = .ok (.if_icmp .ne 31, 3) := by decide +kernel
theorem dX6_isOrdered_132 : decode cX6_isOrdered 132 = .ok (.aload_n 0, 1) := by decide +kernel
theorem dX6_isOrdered_133 : decode cX6_isOrdered 133 = .ok (.bipush 48, 2) := by decide +kernel
theorem dX6_isOrdered_135 : decode cX6_isOrdered 135 = .ok (.bipush 54, 2) := by decide +kernel
theorem dX6_isOrdered_137 : decode cX6_isOrdered 137 = .ok (.invokevirtual 117, 3) := by decide +kernel
theorem dX6_isOrdered_140 : decode cX6_isOrdered 140 = .ok (.ifCond .eq 20, 3) := by decide +kernel
theorem dX6_isOrdered_143 : decode cX6_isOrdered 143 = .ok (.bipush 10, 2) := by decide +kernel
theorem dX6_isOrdered_145 : decode cX6_isOrdered 145 = .ok (.aload_n 0, 1) := by decide +kernel
theorem dX6_isOrdered_146 : decode cX6_isOrdered 146 = .ok (.bipush 48, 2) := by decide +kernel
theorem dX6_isOrdered_148 : decode cX6_isOrdered 148 = .ok (.bipush 54, 2) := by decide +kernel
theorem dX6_isOrdered_150 : decode cX6_isOrdered 150 = .ok (.invokevirtual 114, 3) := by decide +kernel
theorem dX6_isOrdered_153 : decode cX6_isOrdered 153 = .ok (.iadd, 1) := by decide +kernel
theorem dX6_isOrdered_154 : decode cX6_isOrdered 154 = .ok (.bipush 48, 2) := by decide +kernel
theorem dX6_isOrdered_156 : decode cX6_isOrdered 156 = .ok (.isub, 1) := by decide +kernel
theorem dX6_isOrdered_157 : decode cX6_isOrdered 157 = .ok (.goto 5, 3) := by decide +kernel
theorem dX6_isOrdered_160 : decode cX6_isOrdered 160 = .ok (.iload 4, 2) := by decide +kernel
theorem dX6_isOrdered_162 : decode cX6_isOrdered 162 = .ok (.istore 4, 2) := by decide +kernel
theorem dX6_isOrdered_164 : decode cX6_isOrdered 164 = .ok (.iload_n 1, 1) := by decide +kernel
theorem dX6_isOrdered_165 : decode cX6_isOrdered 165 = .ok (.ifCond .eq 33, 3) := by decide +kernel
theorem dX6_isOrdered_168 : decode cX6_isOrdered 168 = .ok (.aload_n 0, 1) := by decide +kernel
theorem dX6_isOrdered_169 : decode cX6_isOrdered 169 = .ok (.iload_n 2, 1) := by decide +kernel
theorem dX6_isOrdered_170 : decode cX6_isOrdered 170 = .ok (.iload 4, 2) := by decide +kernel
theorem dX6_isOrdered_172 : decode cX6_isOrdered 172 = .ok (.invokevirtual 98, 3) := by decide +kernel
theorem dX6_isOrdered_175 : decode cX6_isOrdered 175 = .ok (.istore 5, 2) := by decide +kernel
theorem dX6_isOrdered_177 : decode cX6_isOrdered 177 = .ok (.iload 5, 2) := by decide +kernel
theorem dX6_isOrdered_179 : decode cX6_isOrdered 179 = .ok (.ifCond .eq 13, 3) := by decide +kernel
theorem dX6_isOrdered_182 : decode cX6_isOrdered 182 = .ok (.aload_n 0, 1) := by decide +kernel
theorem dX6_isOrdered_183 : decode cX6_isOrdered 183 = .ok (.iload_n 2, 1) := by decide +kernel
theorem dX6_isOrdered_184 : decode cX6_isOrdered 184 = .ok (.iload 4, 2) := by decide +kernel
theorem dX6_isOrdered_186 : decode cX6_isOrdered 186 = .ok (.invokevirtual 101, 3) := by decide +kernel
theorem dX6_isOrdered_189 : decode cX6_isOrdered 189 = .ok (.goto 4, 3) := by decide +kernel
theorem dX6_isOrdered_192 : decode cX6_isOrdered 192 = .ok (.iconst 0, 1) := by decide +kernel
theorem dX6_isOrdered_193 : decode cX6_isOrdered 193 = .ok (.istore 6, 2) := by decide +kernel
theorem dX6_isOrdered_195 : decode cX6_isOrdered 195 = .ok (.iload 5, 2) := by decide +kernel
theorem dX6_isOrdered_197 : decode cX6_isOrdered 197 = .ok (.ireturn, 1) := by decide +kernel
theorem dX6_isOrdered_198 : decode cX6_isOrdered 198 = .ok (.iconst 1, 1) := by decide +kernel
theorem dX6_isOrdered_199 : decode cX6_isOrdered 199 = .ok (.ireturn, 1) := by decide +kernel
theorem dX6_go_0 : decode cX6_go 0 = .ok (.aload_n 0, 1) := by decide +kernel
theorem dX6_go_1 : decode cX6_go 1 = .ok (.iconst 0, 1) := by decide +kernel
theorem dX6_go_2 : decode cX6_go 2 = .ok (.putfield 107, 3) := by decide +kernel
theorem dX6_go_5 : decode cX6_go 5 = .ok (.aload_n 0, 1) := by decide +kernel
theorem dX6_go_6 : decode cX6_go 6 = .ok (.iconst 0, 1) := by decide +kernel
theorem dX6_go_7 : decode cX6_go 7 = .ok (.putfield 110, 3) := by decide +kernel
theorem dX6_go_10 : decode cX6_go 10 = .ok (.aload_n 0, 1) := by decide +kernel
theorem dX6_go_11 : decode cX6_go 11 = .ok (.iconst 0, 1) := by decide +kernel
theorem dX6_go_12 : decode cX6_go 12 = .ok (.putfield 124, 3) := by decide +kernel
theorem dX6_go_15 : decode cX6_go 15 = .ok (.iconst 1, 1) := by decide +kernel
theorem dX6_go_16 : decode cX6_go 16 = .ok (.istore_n 2, 1) := by decide +kernel
theorem dX6_go_17 : decode cX6_go 17 = .ok (.iload_n 2, 1) := by decide +kernel
theorem dX6_go_18 : decode cX6_go 18 = .ok (.ifCond .eq 76, 3) := by decide +kernel
theorem dX6_go_21 : decode cX6_go 21 = .ok (.aload_n 0, 1) := by decide +kernel
theorem dX6_go_22 : decode cX6_go 22 = .ok (.iload_n 1, 1) := by decide +kernel
theorem dX6_go_23 : decode cX6_go 23 = .ok (.invokevirtual 127, 3) := by decide +kernel
theorem dX6_go_26 : decode cX6_go 26 = .ok (.ifCond .ne 5, 3) := by decide +kernel
theorem dX6_go_29 : decode cX6_go 29 = .ok (.iconst 0, 1) := by decide +kernel
theorem dX6_go_30 : decode cX6_go 30 = .ok (.ireturn, 1) := by decide +kernel
theorem dX6_go_31 : decode cX6_go 31 = .ok (.aload_n 0, 1) := by decide +kernel
theorem dX6_go_32 : decode cX6_go 32 = .ok (.dup, 1) := by decide +kernel
theorem dX6_go_33 : decode cX6_go 33 = .ok (.getfield 124, 3) := by decide +kernel
theorem dX6_go_36 : decode cX6_go 36 = .ok (.iconst 1, 1) := by decide +kernel
theorem dX6_go_37 : decode cX6_go 37 = .ok (.iadd, 1) := by decide +kernel
theorem dX6_go_38 : decode cX6_go 38 = .ok (.putfield 124, 3) := by decide +kernel
theorem dX6_go_41 : decode cX6_go 41 = .ok (.aload_n 0, 1) := by decide +kernel
theorem dX6_go_42 : decode cX6_go 42 = .ok (.getfield 110, 3) := by decide +kernel
theorem dX6_go_45 : decode cX6_go 45 = .ok (.ifCond .ne 18, 3) := by decide +kernel
theorem dX6_go_48 : decode cX6_go 48 = .ok (.aload_n 0, 1) := by decide +kernel
theorem dX6_go_49 : decode cX6_go 49 = .ok (.getfield 107, 3) := by decide +kernel
theorem dX6_go_52 : decode cX6_go 52 = .ok (.aload_n 0, 1) := by decide +kernel
theorem dX6_go_53 : decode cX6_go 53 = .ok (.getfield 104, 3) := by decide +kernel
theorem dX6_go_56 : decode cX6_go 56 = .ok (.if_icmp .ge 7, 3) := by decide +kernel
theorem dX6_go_59 : decode cX6_go 59 = .ok (.iconst 1, 1) := by decide +kernel
theorem dX6_go_60 : decode cX6_go 60 = .ok (.goto 4, 3) := by decide +kernel
theorem dX6_go_63 : decode cX6_go 63 = .ok (.iconst 0, 1) := by decide +kernel
theorem dX6_go_64 : decode cX6_go 64 = .ok (.istore_n 2, 1) := by decide +kernel
theorem dX6_go_65 : decode cX6_go 65 = .ok (.iload_n 2, 1) := by decide +kernel
theorem dX6_go_66 : decode cX6_go 66 = .ok (.ifCond .eq (-49), 3) := by decide +kernel
theorem dX6_go_69 : decode cX6_go 69 = .ok (.aload_n 0, 1) := by decide +kernel
theorem dX6_go_70 : decode cX6_go 70 = .ok (.bipush 59, 2) := by decide +kernel
theorem dX6_go_72 : decode cX6_go 72 = .ok (.bipush 59, 2) := by decide +kernel
theorem dX6_go_74 : decode cX6_go 74 = .ok (.invokevirtual 114, 3) := by decide +kernel
theorem dX6_go_77 : decode cX6_go 77 = .ok (.istore_n 3, 1) := by decide +kernel
theorem dX6_go_78 : decode cX6_go 78 = .ok (.aload_n 0, 1) := by decide +kernel
theorem dX6_go_79 : decode cX6_go 79 = .ok (.getfield 110, 3) := by decide +kernel
theorem dX6_go_82 : decode cX6_go 82 = .ok (.ifCond .ne 7, 3) := by decide +kernel
theorem dX6_go_85 : decode cX6_go 85 = .ok (.iconst 1, 1) := by decide +kernel
theorem dX6_go_86 : decode cX6_go 86 = .ok (.goto 4, 3) := by decide +kernel
theorem dX6_go_89 : decode cX6_go 89 = .ok (.iconst 0, 1) := by decide +kernel
theorem dX6_go_90 : decode cX6_go 90 = .ok (.istore_n 2, 1) := by decide +kernel
theorem dX6_go_91 : decode cX6_go 91 = .ok (.goto (-74), 3) := by decide +kernel
theorem dX6_go_94 : decode cX6_go 94 = .ok (.iconst 1, 1) := by decide +kernel
theorem dX6_go_95 : decode cX6_go 95 = .ok (.ireturn, 1) := by decide +kernel
theorem dX6_textError_0 : decode cX6_textError 0 = .ok (.aload_n 0, 1) := by decide +kernel
theorem dX6_textError_1 : decode cX6_textError 1 = .ok (.iconst 0, 1) := by decide +kernel
theorem dX6_textError_2 : decode cX6_textError 2 = .ok (.putfield 25, 3) := by decide +kernel
theorem dX6_textError_5 : decode cX6_textError 5 = .ok (.aload_n 0, 1) := by decide +kernel
theorem dX6_textError_6 : decode cX6_textError 6 = .ok (.iconst 0, 1) := by decide +kernel
theorem dX6_textError_7 : decode cX6_textError 7 = .ok (.invokevirtual 131, 3) := by decide +kernel
theorem dX6_textError_10 : decode cX6_textError 10 = .ok (.istore_n 1, 1) := by decide +kernel
theorem dX6_textError_11 : decode cX6_textError 11 = .ok (.aload_n 0, 1) := by decide +kernel
theorem dX6_textError_12 : decode cX6_textError 12 = .ok (.getfield 110, 3) := by decide +kernel
theorem dX6_textError_15 : decode cX6_textError 15 = .ok (.ifCond .eq 10, 3) := by decide +kernel
theorem dX6_textError_18 : decode cX6_textError 18 = .ok (.aload_n 0, 1) := by decide +kernel
theorem dX6_textError_19 : decode cX6_textError 19 = .ok (.getfield 107, 3) := by decide +kernel
theorem dX6_textError_22 : decode cX6_textError 22 = .ok (.goto 4, 3) := by decide +kernel
theorem dX6_textError_25 : decode cX6_textError 25 = .ok (.iconst (-1), 1) := by decide +kernel
theorem dX6_textError_26 : decode cX6_textError 26 = .ok (.ireturn, 1) := by decide +kernel
theorem dX6_isPossible_0 : decode cX6_isPossible 0 = .ok (.iconst 0, 1) := by decide +kernel
theorem dX6_isPossible_1 : decode cX6_isPossible 1 = .ok (.istore_n 1, 1) := by decide +kernel
theorem dX6_isPossible_2 : decode cX6_isPossible 2 = .ok (.iload_n 1, 1) := by decide +kernel
theorem dX6_isPossible_3 : decode cX6_isPossible 3 = .ok (.sipush 230, 3) := by decide +kernel
theorem dX6_isPossible_6 : decode cX6_isPossible 6 = .ok (.if_icmp .ge 21, 3) := by decide +kernel
theorem dX6_isPossible_9 : decode cX6_isPossible 9 = .ok (.aload_n 0, 1) := by decide +kernel
theorem dX6_isPossible_10 : decode cX6_isPossible 10 = .ok (.getfield 19, 3) := by decide +kernel
theorem dX6_isPossible_13 : decode cX6_isPossible 13 = .ok (.iload_n 1, 1) := by decide +kernel
theorem dX6_isPossible_14 : decode cX6_isPossible 14 = .ok (.aload_n 0, 1) := by decide +kernel
theorem dX6_isPossible_15 : decode cX6_isPossible 15 = .ok (.getfield 7, 3) := by decide +kernel
theorem dX6_isPossible_18 : decode cX6_isPossible 18 = .ok (.iload_n 1, 1) := by decide +kernel
theorem dX6_isPossible_19 : decode cX6_isPossible 19 = .ok (.iaload, 1) := by decide +kernel
theorem dX6_isPossible_20 : decode cX6_isPossible 20 = .ok (.iastore, 1) := by decide +kernel
theorem dX6_isPossible_21 : decode cX6_isPossible 21 = .ok (.iinc 1 1, 3) := by decide +kernel
theorem dX6_isPossible_24 : decode cX6_isPossible 24 = .ok (.goto (-22), 3) := by decide +kernel
theorem dX6_isPossible_27 : decode cX6_isPossible 27 = .ok (.aload_n 0, 1) := by decide +kernel
theorem dX6_isPossible_28 : decode cX6_isPossible 28 = .ok (.iconst 1, 1) := by decide +kernel
theorem dX6_isPossible_29 : decode cX6_isPossible 29 = .ok (.invokevirtual 131, 3) := by decide +kernel
theorem dX6_isPossible_32 : decode cX6_isPossible 32 = .ok (.istore_n 1, 1) := by decide +kernel
theorem dX6_isPossible_33 : decode cX6_isPossible 33 = .ok (.iconst 0, 1) := by decide +kernel
theorem dX6_isPossible_34 : decode cX6_isPossible 34 = .ok (.istore_n 2, 1) := by decide +kernel
theorem dX6_isPossible_35 : decode cX6_isPossible 35 = .ok (.iload_n 2, 1) := by decide +kernel
theorem dX6_isPossible_36 : decode cX6_isPossible 36 = .ok (.sipush 230, 3) := by decide +kernel
theorem dX6_isPossible_39 : decode cX6_isPossible 39 = .ok (.if_icmp .ge 21, 3) := by decide +kernel
theorem dX6_isPossible_42 : decode cX6_isPossible 42 = .ok (.aload_n 0, 1) := by decide +kernel
theorem dX6_isPossible_43 : decode cX6_isPossible 43 = .ok (.getfield 7, 3) := by decide +kernel
theorem dX6_isPossible_46 : decode cX6_isPossible 46 = .ok (.iload_n 2, 1) := by decide +kernel
theorem dX6_isPossible_47 : decode cX6_isPossible 47 = .ok (.aload_n 0, 1) := by decide +kernel
theorem dX6_isPossible_48 : decode cX6_isPossible 48 = .ok (.getfield 19, 3) := by decide +kernel
theorem dX6_isPossible_51 : decode cX6_isPossible 51 = .ok (.iload_n 2, 1) := by decide +kernel
theorem dX6_isPossible_52 : decode cX6_isPossible 52 = .ok (.iaload, 1) := by decide +kernel
theorem dX6_isPossible_53 : decode cX6_isPossible 53 = .ok (.iastore, 1) := by decide +kernel
theorem dX6_isPossible_54 : decode cX6_isPossible 54 = .ok (.iinc 2 1, 3) := by decide +kernel
theorem dX6_isPossible_57 : decode cX6_isPossible 57 = .ok (.goto (-22), 3) := by decide +kernel
theorem dX6_isPossible_60 : decode cX6_isPossible 60 = .ok (.iload_n 1, 1) := by decide +kernel
theorem dX6_isPossible_61 : decode cX6_isPossible 61 = .ok (.ireturn, 1) := by decide +kernel
theorem dX6_impossibleOrder_0 : decode cX6_impossibleOrder 0 = .ok (.aload_n 0, 1) := by decide +kernel
theorem dX6_impossibleOrder_1 : decode cX6_impossibleOrder 1 = .ok (.iconst 0, 1) := by decide +kernel
theorem dX6_impossibleOrder_2 : decode cX6_impossibleOrder 2 = .ok (.putfield 25, 3) := by decide +kernel
theorem dX6_impossibleOrder_5 : decode cX6_impossibleOrder 5 = .ok (.aload_n 0, 1) := by decide +kernel
theorem dX6_impossibleOrder_6 : decode cX6_impossibleOrder 6 = .ok (.iconst 0, 1) := by decide +kernel
theorem dX6_impossibleOrder_7 : decode cX6_impossibleOrder 7 = .ok (.invokevirtual 131, 3) := by decide +kernel
theorem dX6_impossibleOrder_10 : decode cX6_impossibleOrder 10 = .ok (.istore_n 1, 1) := by decide +kernel
theorem dX6_impossibleOrder_11 : decode cX6_impossibleOrder 11 = .ok (.aload_n 0, 1) := by decide +kernel
theorem dX6_impossibleOrder_12 : decode cX6_impossibleOrder 12 = .ok (.getfield 110, 3) := by decide +kernel
theorem dX6_impossibleOrder_15 : decode cX6_impossibleOrder 15 = .ok (.ifCond .eq 9, 3) := by decide +kernel
theorem dX6_impossibleOrder_18 : decode cX6_impossibleOrder 18 = .ok (.aload_n 0, 1) := by decide +kernel
theorem dX6_impossibleOrder_19 : decode cX6_impossibleOrder 19 = .ok (.iconst 1, 1) := by decide +kernel
theorem dX6_impossibleOrder_20 : decode cX6_impossibleOrder 20 = .ok (.invokevirtual 79, 3) := by decide +kernel
theorem dX6_impossibleOrder_23 : decode cX6_impossibleOrder 23 = .ok (.ireturn, 1) := by decide +kernel
theorem dX6_impossibleOrder_24 : decode cX6_impossibleOrder 24 = .ok (.aload_n 0, 1) := by decide +kernel
theorem dX6_impossibleOrder_25 : decode cX6_impossibleOrder 25 = .ok (.invokevirtual 134, 3) := by decide +kernel
theorem dX6_impossibleOrder_28 : decode cX6_impossibleOrder 28 = .ok (.ifCond .eq 7, 3) := by decide +kernel
theorem dX6_impossibleOrder_31 : decode cX6_impossibleOrder 31 = .ok (.iconst (-1), 1) := by decide +kernel
theorem dX6_impossibleOrder_32 : decode cX6_impossibleOrder 32 = .ok (.goto 7, 3) := by decide +kernel
theorem dX6_impossibleOrder_35 : decode cX6_impossibleOrder 35 = .ok (.aload_n 0, 1) := by decide +kernel
theorem dX6_impossibleOrder_36 : decode cX6_impossibleOrder 36 = .ok (.getfield 124, 3) := by decide +kernel
theorem dX6_impossibleOrder_39 : decode cX6_impossibleOrder 39 = .ok (.ireturn, 1) := by decide +kernel
theorem dX6_carryOut_0 : decode cX6_carryOut 0 = .ok (.aload_n 0, 1) := by decide +kernel
theorem dX6_carryOut_1 : decode cX6_carryOut 1 = .ok (.iconst 0, 1) := by decide +kernel
theorem dX6_carryOut_2 : decode cX6_carryOut 2 = .ok (.putfield 25, 3) := by decide +kernel
theorem dX6_carryOut_5 : decode cX6_carryOut 5 = .ok (.aload_n 0, 1) := by decide +kernel
theorem dX6_carryOut_6 : decode cX6_carryOut 6 = .ok (.iconst 0, 1) := by decide +kernel
theorem dX6_carryOut_7 : decode cX6_carryOut 7 = .ok (.invokevirtual 131, 3) := by decide +kernel
theorem dX6_carryOut_10 : decode cX6_carryOut 10 = .ok (.istore_n 1, 1) := by decide +kernel
theorem dX6_carryOut_11 : decode cX6_carryOut 11 = .ok (.aload_n 0, 1) := by decide +kernel
theorem dX6_carryOut_12 : decode cX6_carryOut 12 = .ok (.getfield 110, 3) := by decide +kernel
theorem dX6_carryOut_15 : decode cX6_carryOut 15 = .ok (.ifCond .ne 10, 3) := by decide +kernel
theorem dX6_carryOut_18 : decode cX6_carryOut 18 = .ok (.aload_n 0, 1) := by decide +kernel
theorem dX6_carryOut_19 : decode cX6_carryOut 19 = .ok (.invokevirtual 134, 3) := by decide +kernel
theorem dX6_carryOut_22 : decode cX6_carryOut 22 = .ok (.ifCond .ne 9, 3) := by decide +kernel
theorem dX6_carryOut_25 : decode cX6_carryOut 25 = .ok (.aload_n 0, 1) := by decide +kernel
theorem dX6_carryOut_26 : decode cX6_carryOut 26 = .ok (.iconst 1, 1) := by decide +kernel
theorem dX6_carryOut_27 : decode cX6_carryOut 27 = .ok (.invokevirtual 79, 3) := by decide +kernel
theorem dX6_carryOut_30 : decode cX6_carryOut 30 = .ok (.ireturn, 1) := by decide +kernel
theorem dX6_carryOut_31 : decode cX6_carryOut 31 = .ok (.aload_n 0, 1) := by decide +kernel
theorem dX6_carryOut_32 : decode cX6_carryOut 32 = .ok (.invokevirtual 85, 3) := by decide +kernel
theorem dX6_carryOut_35 : decode cX6_carryOut 35 = .ok (.aload_n 0, 1) := by decide +kernel
theorem dX6_carryOut_36 : decode cX6_carryOut 36 = .ok (.iconst 1, 1) := by decide +kernel
theorem dX6_carryOut_37 : decode cX6_carryOut 37 = .ok (.invokevirtual 131, 3) := by decide +kernel
theorem dX6_carryOut_40 : decode cX6_carryOut 40 = .ok (.istore_n 1, 1) := by decide +kernel
theorem dX6_carryOut_41 : decode cX6_carryOut 41 = .ok (.aload_n 0, 1) := by decide +kernel
theorem dX6_carryOut_42 : decode cX6_carryOut 42 = .ok (.getfield 124, 3) := by decide +kernel
theorem dX6_carryOut_45 : decode cX6_carryOut 45 = .ok (.ireturn, 1) := by decide +kernel
theorem dX6_undo_0 : decode cX6_undo 0 = .ok (.aload_n 0, 1) := by decide +kernel
theorem dX6_undo_1 : decode cX6_undo 1 = .ok (.iconst 0, 1) := by decide +kernel
theorem dX6_undo_2 : decode cX6_undo 2 = .ok (.putfield 25, 3) := by decide +kernel
theorem dX6_undo_5 : decode cX6_undo 5 = .ok (.aload_n 0, 1) := by decide +kernel
theorem dX6_undo_6 : decode cX6_undo 6 = .ok (.getfield 33, 3) := by decide +kernel
theorem dX6_undo_9 : decode cX6_undo 9 = .ok (.ifCond .ne 9, 3) := by decide +kernel
theorem dX6_undo_12 : decode cX6_undo 12 = .ok (.aload_n 0, 1) := by decide +kernel
theorem dX6_undo_13 : decode cX6_undo 13 = .ok (.iconst 1, 1) := by decide +kernel
theorem dX6_undo_14 : decode cX6_undo 14 = .ok (.invokevirtual 79, 3) := by decide +kernel
theorem dX6_undo_17 : decode cX6_undo 17 = .ok (.ireturn, 1) := by decide +kernel
theorem dX6_undo_18 : decode cX6_undo 18 = .ok (.aload_n 0, 1) := by decide +kernel
theorem dX6_undo_19 : decode cX6_undo 19 = .ok (.dup, 1) := by decide +kernel
theorem dX6_undo_20 : decode cX6_undo 20 = .ok (.getfield 33, 3) := by decide +kernel
theorem dX6_undo_23 : decode cX6_undo 23 = .ok (.iconst 1, 1) := by decide +kernel
theorem dX6_undo_24 : decode cX6_undo 24 = .ok (.isub, 1) := by decide +kernel
theorem dX6_undo_25 : decode cX6_undo 25 = .ok (.putfield 33, 3) := by decide +kernel
theorem dX6_undo_28 : decode cX6_undo 28 = .ok (.iconst 0, 1) := by decide +kernel
theorem dX6_undo_29 : decode cX6_undo 29 = .ok (.istore_n 1, 1) := by decide +kernel
theorem dX6_undo_30 : decode cX6_undo 30 = .ok (.iload_n 1, 1) := by decide +kernel
theorem dX6_undo_31 : decode cX6_undo 31 = .ok (.sipush 230, 3) := by decide +kernel
theorem dX6_undo_34 : decode cX6_undo 34 = .ok (.if_icmp .ge 30, 3) := by decide +kernel
theorem dX6_undo_37 : decode cX6_undo 37 = .ok (.aload_n 0, 1) := by decide +kernel
theorem dX6_undo_38 : decode cX6_undo 38 = .ok (.getfield 7, 3) := by decide +kernel
theorem dX6_undo_41 : decode cX6_undo 41 = .ok (.iload_n 1, 1) := by decide +kernel
theorem dX6_undo_42 : decode cX6_undo 42 = .ok (.aload_n 0, 1) := by decide +kernel
theorem dX6_undo_43 : decode cX6_undo 43 = .ok (.getfield 13, 3) := by decide +kernel
theorem dX6_undo_46 : decode cX6_undo 46 = .ok (.sipush 230, 3) := by decide +kernel
theorem dX6_undo_49 : decode cX6_undo 49 = .ok (.aload_n 0, 1) := by decide +kernel
theorem dX6_undo_50 : decode cX6_undo 50 = .ok (.getfield 33, 3) := by decide +kernel
theorem dX6_undo_53 : decode cX6_undo 53 = .ok (.imul, 1) := by decide +kernel
theorem dX6_undo_54 : decode cX6_undo 54 = .ok (.iload_n 1, 1) := by decide +kernel
theorem dX6_undo_55 : decode cX6_undo 55 = .ok (.iadd, 1) := by decide +kernel
theorem dX6_undo_56 : decode cX6_undo 56 = .ok (.iaload, 1) := by decide +kernel
theorem dX6_undo_57 : decode cX6_undo 57 = .ok (.iastore, 1) := by decide +kernel
theorem dX6_undo_58 : decode cX6_undo 58 = .ok (.iinc 1 1, 3) := by decide +kernel
theorem dX6_undo_61 : decode cX6_undo 61 = .ok (.goto (-31), 3) := by decide +kernel
theorem dX6_undo_64 : decode cX6_undo 64 = .ok (.aload_n 0, 1) := by decide +kernel
theorem dX6_undo_65 : decode cX6_undo 65 = .ok (.getfield 33, 3) := by decide +kernel
theorem dX6_undo_68 : decode cX6_undo 68 = .ok (.ireturn, 1) := by decide +kernel
theorem dX6_sum_0 : decode cX6_sum 0 = .ok (.aload_n 0, 1) := by decide +kernel
theorem dX6_sum_1 : decode cX6_sum 1 = .ok (.iconst 0, 1) := by decide +kernel
theorem dX6_sum_2 : decode cX6_sum 2 = .ok (.iconst 1, 1) := by decide +kernel
theorem dX6_sum_3 : decode cX6_sum 3 = .ok (.invokevirtual 40, 3) := by decide +kernel
theorem dX6_sum_6 : decode cX6_sum 6 = .ok (.aload_n 0, 1) := by decide +kernel
theorem dX6_sum_7 : decode cX6_sum 7 = .ok (.iconst 1, 1) := by decide +kernel
theorem dX6_sum_8 : decode cX6_sum 8 = .ok (.iconst 1, 1) := by decide +kernel
theorem dX6_sum_9 : decode cX6_sum 9 = .ok (.invokevirtual 40, 3) := by decide +kernel
theorem dX6_sum_12 : decode cX6_sum 12 = .ok (.iadd, 1) := by decide +kernel
theorem dX6_sum_13 : decode cX6_sum 13 = .ok (.aload_n 0, 1) := by decide +kernel
theorem dX6_sum_14 : decode cX6_sum 14 = .ok (.iconst 2, 1) := by decide +kernel
theorem dX6_sum_15 : decode cX6_sum 15 = .ok (.iconst 1, 1) := by decide +kernel
theorem dX6_sum_16 : decode cX6_sum 16 = .ok (.invokevirtual 40, 3) := by decide +kernel
theorem dX6_sum_19 : decode cX6_sum 19 = .ok (.iadd, 1) := by decide +kernel
theorem dX6_sum_20 : decode cX6_sum 20 = .ok (.aload_n 0, 1) := by decide +kernel
theorem dX6_sum_21 : decode cX6_sum 21 = .ok (.iconst 3, 1) := by decide +kernel
theorem dX6_sum_22 : decode cX6_sum 22 = .ok (.iconst 1, 1) := by decide +kernel
theorem dX6_sum_23 : decode cX6_sum 23 = .ok (.invokevirtual 40, 3) := by decide +kernel
theorem dX6_sum_26 : decode cX6_sum 26 = .ok (.iadd, 1) := by decide +kernel
theorem dX6_sum_27 : decode cX6_sum 27 = .ok (.ireturn, 1) := by decide +kernel
theorem dX6_takeSnapshot_0 : decode cX6_takeSnapshot 0 = .ok (.aload_n 0, 1) := by decide +kernel
theorem dX6_takeSnapshot_1 : decode cX6_takeSnapshot 1 = .ok (.iconst 0, 1) := by decide +kernel
theorem dX6_takeSnapshot_2 : decode cX6_takeSnapshot 2 = .ok (.putfield 25, 3) := by decide +kernel
theorem dX6_takeSnapshot_5 : decode cX6_takeSnapshot 5 = .ok (.iconst 0, 1) := by decide +kernel
theorem dX6_takeSnapshot_6 : decode cX6_takeSnapshot 6 = .ok (.istore_n 1, 1) := by decide +kernel
theorem dX6_takeSnapshot_7 : decode cX6_takeSnapshot 7 = .ok (.iload_n 1, 1) := by decide +kernel
theorem dX6_takeSnapshot_8 : decode cX6_takeSnapshot 8 = .ok (.sipush 230, 3) := by decide +kernel
theorem dX6_takeSnapshot_11 : decode cX6_takeSnapshot 11 = .ok (.if_icmp .ge 21, 3) := by decide +kernel
theorem dX6_takeSnapshot_14 : decode cX6_takeSnapshot 14 = .ok (.aload_n 0, 1) := by decide +kernel
theorem dX6_takeSnapshot_15 : decode cX6_takeSnapshot 15 = .ok (.getfield 16, 3) := by decide +kernel
theorem dX6_takeSnapshot_18 : decode cX6_takeSnapshot 18 = .ok (.iload_n 1, 1) := by decide +kernel
theorem dX6_takeSnapshot_19 : decode cX6_takeSnapshot 19 = .ok (.aload_n 0, 1) := by decide +kernel
theorem dX6_takeSnapshot_20 : decode cX6_takeSnapshot 20 = .ok (.getfield 7, 3) := by decide +kernel
theorem dX6_takeSnapshot_23 : decode cX6_takeSnapshot 23 = .ok (.iload_n 1, 1) := by decide +kernel
theorem dX6_takeSnapshot_24 : decode cX6_takeSnapshot 24 = .ok (.iaload, 1) := by decide +kernel
theorem dX6_takeSnapshot_25 : decode cX6_takeSnapshot 25 = .ok (.iastore, 1) := by decide +kernel
theorem dX6_takeSnapshot_26 : decode cX6_takeSnapshot 26 = .ok (.iinc 1 1, 3) := by decide +kernel
theorem dX6_takeSnapshot_29 : decode cX6_takeSnapshot 29 = .ok (.goto (-22), 3) := by decide +kernel
theorem dX6_takeSnapshot_32 : decode cX6_takeSnapshot 32 = .ok (.aload_n 0, 1) := by decide +kernel
theorem dX6_takeSnapshot_33 : decode cX6_takeSnapshot 33 = .ok (.iconst 1, 1) := by decide +kernel
theorem dX6_takeSnapshot_34 : decode cX6_takeSnapshot 34 = .ok (.putfield 138, 3) := by decide +kernel
theorem dX6_takeSnapshot_37 : decode cX6_takeSnapshot 37 = .ok (.aload_n 0, 1) := by decide +kernel
theorem dX6_takeSnapshot_38 : decode cX6_takeSnapshot 38 = .ok (.invokevirtual 141, 3) := by decide +kernel
theorem dX6_takeSnapshot_41 : decode cX6_takeSnapshot 41 = .ok (.ireturn, 1) := by decide +kernel
theorem dX6_restoreSnapshot_0 : decode cX6_restoreSnapshot 0 = .ok (.aload_n 0, 1) := by decide +kernel
theorem dX6_restoreSnapshot_1 : decode cX6_restoreSnapshot 1 = .ok (.iconst 0, 1) := by decide +kernel
theorem dX6_restoreSnapshot_2 : decode cX6_restoreSnapshot 2 = .ok (.putfield 25, 3) := by decide +kernel
theorem dX6_restoreSnapshot_5 : decode cX6_restoreSnapshot 5 = .ok (.aload_n 0, 1) := by decide +kernel
theorem dX6_restoreSnapshot_6 : decode cX6_restoreSnapshot 6 = .ok (.getfield 138, 3) := by decide +kernel
theorem dX6_restoreSnapshot_9 : decode cX6_restoreSnapshot 9 = .ok (.ifCond .ne 9, 3) := by decide +kernel
theorem dX6_restoreSnapshot_12 : decode cX6_restoreSnapshot 12 = .ok (.aload_n 0, 1) := by decide +kernel
theorem dX6_restoreSnapshot_13 : decode cX6_restoreSnapshot 13 = .ok (.iconst 1, 1) := by decide +kernel
theorem dX6_restoreSnapshot_14 : decode cX6_restoreSnapshot 14 = .ok (.invokevirtual 79, 3) := by decide +kernel
theorem dX6_restoreSnapshot_17 : decode cX6_restoreSnapshot 17 = .ok (.ireturn, 1) := by decide +kernel
theorem dX6_restoreSnapshot_18 : decode cX6_restoreSnapshot 18 = .ok (.aload_n 0, 1) := by decide +kernel
theorem dX6_restoreSnapshot_19 : decode cX6_restoreSnapshot 19 = .ok (.invokevirtual 85, 3) := by decide +kernel
theorem dX6_restoreSnapshot_22 : decode cX6_restoreSnapshot 22 = .ok (.iconst 0, 1) := by decide +kernel
theorem dX6_restoreSnapshot_23 : decode cX6_restoreSnapshot 23 = .ok (.istore_n 1, 1) := by decide +kernel
theorem dX6_restoreSnapshot_24 : decode cX6_restoreSnapshot 24 = .ok (.iload_n 1, 1) := by decide +kernel
theorem dX6_restoreSnapshot_25 : decode cX6_restoreSnapshot 25 = .ok (.sipush 230, 3) := by decide +kernel
theorem dX6_restoreSnapshot_28 : decode cX6_restoreSnapshot 28 = .ok (.if_icmp .ge 21, 3) := by decide +kernel
theorem dX6_restoreSnapshot_31 : decode cX6_restoreSnapshot 31 = .ok (.aload_n 0, 1) := by decide +kernel
theorem dX6_restoreSnapshot_32 : decode cX6_restoreSnapshot 32 = .ok (.getfield 7, 3) := by decide +kernel
theorem dX6_restoreSnapshot_35 : decode cX6_restoreSnapshot 35 = .ok (.iload_n 1, 1) := by decide +kernel
theorem dX6_restoreSnapshot_36 : decode cX6_restoreSnapshot 36 = .ok (.aload_n 0, 1) := by decide +kernel
theorem dX6_restoreSnapshot_37 : decode cX6_restoreSnapshot 37 = .ok (.getfield 16, 3) := by decide +kernel
theorem dX6_restoreSnapshot_40 : decode cX6_restoreSnapshot 40 = .ok (.iload_n 1, 1) := by decide +kernel
theorem dX6_restoreSnapshot_41 : decode cX6_restoreSnapshot 41 = .ok (.iaload, 1) := by decide +kernel
theorem dX6_restoreSnapshot_42 : decode cX6_restoreSnapshot 42 = .ok (.iastore, 1) := by decide +kernel
theorem dX6_restoreSnapshot_43 : decode cX6_restoreSnapshot 43 = .ok (.iinc 1 1, 3) := by decide +kernel
theorem dX6_restoreSnapshot_46 : decode cX6_restoreSnapshot 46 = .ok (.goto (-22), 3) := by decide +kernel
theorem dX6_restoreSnapshot_49 : decode cX6_restoreSnapshot 49 = .ok (.aload_n 0, 1) := by decide +kernel
theorem dX6_restoreSnapshot_50 : decode cX6_restoreSnapshot 50 = .ok (.invokevirtual 141, 3) := by decide +kernel
theorem dX6_restoreSnapshot_53 : decode cX6_restoreSnapshot 53 = .ok (.ireturn, 1) := by decide +kernel
theorem dX6_told_0 : decode cX6_told 0 = .ok (.aload_n 0, 1) := by decide +kernel
theorem dX6_told_1 : decode cX6_told 1 = .ok (.iload_n 1, 1) := by decide +kernel
theorem dX6_told_2 : decode cX6_told 2 = .ok (.invokevirtual 75, 3) := by decide +kernel
theorem dX6_told_5 : decode cX6_told 5 = .ok (.ifCond .eq 12, 3) := by decide +kernel
theorem dX6_told_8 : decode cX6_told 8 = .ok (.aload_n 0, 1) := by decide +kernel
theorem dX6_told_9 : decode cX6_told 9 = .ok (.iload_n 1, 1) := by decide +kernel
theorem dX6_told_10 : decode cX6_told 10 = .ok (.iload_n 2, 1) := by decide +kernel
theorem dX6_told_11 : decode cX6_told 11 = .ok (.invokevirtual 40, 3) := by decide +kernel
theorem dX6_told_14 : decode cX6_told 14 = .ok (.goto 4, 3) := by decide +kernel
theorem dX6_told_17 : decode cX6_told 17 = .ok (.iconst 0, 1) := by decide +kernel
theorem dX6_told_18 : decode cX6_told 18 = .ok (.ireturn, 1) := by decide +kernel
theorem dX6_stateOf_0 : decode cX6_stateOf 0 = .ok (.aload_n 0, 1) := by decide +kernel
theorem dX6_stateOf_1 : decode cX6_stateOf 1 = .ok (.iload_n 1, 1) := by decide +kernel
theorem dX6_stateOf_2 : decode cX6_stateOf 2 = .ok (.iconst 0, 1) := by decide +kernel
theorem dX6_stateOf_3 : decode cX6_stateOf 3 = .ok (.invokevirtual 145, 3) := by decide +kernel
theorem dX6_stateOf_6 : decode cX6_stateOf 6 = .ok (.ireturn, 1) := by decide +kernel
theorem dX6_positionOf_0 : decode cX6_positionOf 0 = .ok (.aload_n 0, 1) := by decide +kernel
theorem dX6_positionOf_1 : decode cX6_positionOf 1 = .ok (.iload_n 1, 1) := by decide +kernel
theorem dX6_positionOf_2 : decode cX6_positionOf 2 = .ok (.iconst 1, 1) := by decide +kernel
theorem dX6_positionOf_3 : decode cX6_positionOf 3 = .ok (.invokevirtual 145, 3) := by decide +kernel
theorem dX6_positionOf_6 : decode cX6_positionOf 6 = .ok (.ireturn, 1) := by decide +kernel
theorem dX6_positionByTracks_0 : decode cX6_positionByTracks 0 = .ok (.aload_n 0, 1) := by decide +kernel
theorem dX6_positionByTracks_1 : decode cX6_positionByTracks 1 = .ok (.iload_n 1, 1) := by decide +kernel
theorem dX6_positionByTracks_2 : decode cX6_positionByTracks 2 = .ok (.iconst 1, 1) := by decide +kernel
theorem dX6_positionByTracks_3 : decode cX6_positionByTracks 3 = .ok (.invokevirtual 145, 3) := by decide +kernel
theorem dX6_positionByTracks_6 : decode cX6_positionByTracks 6 = .ok (.ireturn, 1) := by decide +kernel
theorem dX6_turnsOf_0 : decode cX6_turnsOf 0 = .ok (.aload_n 0, 1) := by decide +kernel
theorem dX6_turnsOf_1 : decode cX6_turnsOf 1 = .ok (.iload_n 1, 1) := by decide +kernel
theorem dX6_turnsOf_2 : decode cX6_turnsOf 2 = .ok (.invokevirtual 75, 3) := by decide +kernel
theorem dX6_turnsOf_5 : decode cX6_turnsOf 5 = .ok (.ifCond .eq 27, 3) := by decide +kernel
theorem dX6_turnsOf_8 : decode cX6_turnsOf 8 = .ok (.aload_n 0, 1) := by decide +kernel
theorem dX6_turnsOf_9 : decode cX6_turnsOf 9 = .ok (.iload_n 1, 1) := by decide +kernel
theorem dX6_turnsOf_10 : decode cX6_turnsOf 10 = .ok (.iconst 1, 1) := by decide +kernel
theorem dX6_turnsOf_11 : decode cX6_turnsOf 11 = .ok (.invokevirtual 40, 3) := by decide +kernel
theorem dX6_turnsOf_14 : decode cX6_turnsOf 14 = .ok (.aload_n 0, 1) := by decide +kernel
theorem dX6_turnsOf_15 : decode cX6_turnsOf 15 = .ok (.iload_n 1, 1) := by decide +kernel
theorem dX6_turnsOf_16 : decode cX6_turnsOf 16 = .ok (.invokevirtual 72, 3) := by decide +kernel
theorem dX6_turnsOf_19 : decode cX6_turnsOf 19 = .ok (.isub, 1) := by decide +kernel
theorem dX6_turnsOf_20 : decode cX6_turnsOf 20 = .ok (.aload_n 0, 1) := by decide +kernel
theorem dX6_turnsOf_21 : decode cX6_turnsOf 21 = .ok (.getfield 7, 3) := by decide +kernel
theorem dX6_turnsOf_24 : decode cX6_turnsOf 24 = .ok (.sipush 229, 3) := by decide +kernel
theorem dX6_turnsOf_27 : decode cX6_turnsOf 27 = .ok (.iaload, 1) := by decide +kernel
theorem dX6_turnsOf_28 : decode cX6_turnsOf 28 = .ok (.idiv, 1) := by decide +kernel
theorem dX6_turnsOf_29 : decode cX6_turnsOf 29 = .ok (.goto 4, 3) := by decide +kernel
theorem dX6_turnsOf_32 : decode cX6_turnsOf 32 = .ok (.iconst 0, 1) := by decide +kernel
theorem dX6_turnsOf_33 : decode cX6_turnsOf 33 = .ok (.ireturn, 1) := by decide +kernel
theorem dX6_placeOf_0 : decode cX6_placeOf 0 = .ok (.aload_n 0, 1) := by decide +kernel
theorem dX6_placeOf_1 : decode cX6_placeOf 1 = .ok (.iload_n 1, 1) := by decide +kernel
theorem dX6_placeOf_2 : decode cX6_placeOf 2 = .ok (.invokevirtual 75, 3) := by decide +kernel
theorem dX6_placeOf_5 : decode cX6_placeOf 5 = .ok (.ifCond .eq 11, 3) := by decide +kernel
theorem dX6_placeOf_8 : decode cX6_placeOf 8 = .ok (.aload_n 0, 1) := by decide +kernel
theorem dX6_placeOf_9 : decode cX6_placeOf 9 = .ok (.iload_n 1, 1) := by decide +kernel
theorem dX6_placeOf_10 : decode cX6_placeOf 10 = .ok (.invokevirtual 72, 3) := by decide +kernel
theorem dX6_placeOf_13 : decode cX6_placeOf 13 = .ok (.goto 4, 3) := by decide +kernel
theorem dX6_placeOf_16 : decode cX6_placeOf 16 = .ok (.iconst 0, 1) := by decide +kernel
theorem dX6_placeOf_17 : decode cX6_placeOf 17 = .ok (.ireturn, 1) := by decide +kernel
theorem dX6_directionOf_0 : decode cX6_directionOf 0 = .ok (.aload_n 0, 1) := by decide +kernel
theorem dX6_directionOf_1 : decode cX6_directionOf 1 = .ok (.iload_n 1, 1) := by decide +kernel
theorem dX6_directionOf_2 : decode cX6_directionOf 2 = .ok (.iconst 2, 1) := by decide +kernel
theorem dX6_directionOf_3 : decode cX6_directionOf 3 = .ok (.invokevirtual 145, 3) := by decide +kernel
theorem dX6_directionOf_6 : decode cX6_directionOf 6 = .ok (.ireturn, 1) := by decide +kernel
theorem dX6_countOfA_0 : decode cX6_countOfA 0 = .ok (.aload_n 0, 1) := by decide +kernel
theorem dX6_countOfA_1 : decode cX6_countOfA 1 = .ok (.iload_n 1, 1) := by decide +kernel
theorem dX6_countOfA_2 : decode cX6_countOfA 2 = .ok (.bipush 7, 2) := by decide +kernel
theorem dX6_countOfA_4 : decode cX6_countOfA 4 = .ok (.invokevirtual 145, 3) := by decide +kernel
theorem dX6_countOfA_7 : decode cX6_countOfA 7 = .ok (.ireturn, 1) := by decide +kernel
theorem dX6_leader_0 : decode cX6_leader 0 = .ok (.aload_n 0, 1) := by decide +kernel
theorem dX6_leader_1 : decode cX6_leader 1 = .ok (.iconst 0, 1) := by decide +kernel
theorem dX6_leader_2 : decode cX6_leader 2 = .ok (.putfield 25, 3) := by decide +kernel
theorem dX6_leader_5 : decode cX6_leader 5 = .ok (.iconst 0, 1) := by decide +kernel
theorem dX6_leader_6 : decode cX6_leader 6 = .ok (.istore_n 1, 1) := by decide +kernel
theorem dX6_leader_7 : decode cX6_leader 7 = .ok (.iconst 1, 1) := by decide +kernel
theorem dX6_leader_8 : decode cX6_leader 8 = .ok (.istore_n 2, 1) := by decide +kernel
theorem dX6_leader_9 : decode cX6_leader 9 = .ok (.iload_n 2, 1) := by decide +kernel
theorem dX6_leader_10 : decode cX6_leader 10 = .ok (.iconst 4, 1) := by decide +kernel
theorem dX6_leader_11 : decode cX6_leader 11 = .ok (.if_icmp .ge 30, 3) := by decide +kernel
theorem dX6_leader_14 : decode cX6_leader 14 = .ok (.aload_n 0, 1) := by decide +kernel
theorem dX6_leader_15 : decode cX6_leader 15 = .ok (.iload_n 2, 1) := by decide +kernel
theorem dX6_leader_16 : decode cX6_leader 16 = .ok (.iconst 1, 1) := by decide +kernel
theorem dX6_leader_17 : decode cX6_leader 17 = .ok (.invokevirtual 40, 3) := by decide +kernel
theorem dX6_leader_20 : decode cX6_leader 20 = .ok (.aload_n 0, 1) := by decide +kernel
theorem dX6_leader_21 : decode cX6_leader 21 = .ok (.iload_n 1, 1) := by decide +kernel
theorem dX6_leader_22 : decode cX6_leader 22 = .ok (.iconst 1, 1) := by decide +kernel
theorem dX6_leader_23 : decode cX6_leader 23 = .ok (.invokevirtual 40, 3) := by decide +kernel
theorem dX6_leader_26 : decode cX6_leader 26 = .ok (.if_icmp .le 7, 3) := by decide +kernel
theorem dX6_leader_29 : decode cX6_leader 29 = .ok (.iload_n 2, 1) := by decide +kernel
theorem dX6_leader_30 : decode cX6_leader 30 = .ok (.goto 4, 3) := by decide +kernel
theorem dX6_leader_33 : decode cX6_leader 33 = .ok (.iload_n 1, 1) := by decide +kernel
theorem dX6_leader_34 : decode cX6_leader 34 = .ok (.istore_n 1, 1) := by decide +kernel
theorem dX6_leader_35 : decode cX6_leader 35 = .ok (.iinc 2 1, 3) := by decide +kernel
theorem dX6_leader_38 : decode cX6_leader 38 = .ok (.goto (-29), 3) := by decide +kernel
theorem dX6_leader_41 : decode cX6_leader 41 = .ok (.iload_n 1, 1) := by decide +kernel
theorem dX6_leader_42 : decode cX6_leader 42 = .ok (.ireturn, 1) := by decide +kernel
theorem dX6_stepTo_0 : decode cX6_stepTo 0 = .ok (.aload_n 0, 1) := by decide +kernel
theorem dX6_stepTo_1 : decode cX6_stepTo 1 = .ok (.iload_n 1, 1) := by decide +kernel
theorem dX6_stepTo_2 : decode cX6_stepTo 2 = .ok (.invokevirtual 75, 3) := by decide +kernel
theorem dX6_stepTo_5 : decode cX6_stepTo 5 = .ok (.ifCond .ne 5, 3) := by decide +kernel
theorem dX6_stepTo_8 : decode cX6_stepTo 8 = .ok (.iconst 0, 1) := by decide +kernel
theorem dX6_stepTo_9 : decode cX6_stepTo 9 = .ok (.ireturn, 1) := by decide +kernel
theorem dX6_stepTo_10 : decode cX6_stepTo 10 = .ok (.iload_n 2, 1) := by decide +kernel
theorem dX6_stepTo_11 : decode cX6_stepTo 11 = .ok (.iconst 0, 1) := by decide +kernel
theorem dX6_stepTo_12 : decode cX6_stepTo 12 = .ok (.iconst 3, 1) := by decide +kernel
theorem dX6_stepTo_13 : decode cX6_stepTo 13 = .ok (.invokestatic 29, 3) := by decide +kernel
theorem dX6_stepTo_16 : decode cX6_stepTo 16 = .ok (.ifCond .eq 12, 3) := by decide +kernel
theorem dX6_stepTo_19 : decode cX6_stepTo 19 = .ok (.aload_n 0, 1) := by decide +kernel
theorem dX6_stepTo_20 : decode cX6_stepTo 20 = .ok (.iload_n 1, 1) := by decide +kernel
theorem dX6_stepTo_21 : decode cX6_stepTo 21 = .ok (.iload_n 2, 1) := by decide +kernel
theorem dX6_stepTo_22 : decode cX6_stepTo 22 = .ok (.invokevirtual 48, 3) := by decide +kernel
theorem dX6_stepTo_25 : decode cX6_stepTo 25 = .ok (.goto 8, 3) := by decide +kernel
theorem dX6_stepTo_28 : decode cX6_stepTo 28 = .ok (.aload_n 0, 1) := by decide +kernel
theorem dX6_stepTo_29 : decode cX6_stepTo 29 = .ok (.iconst 2, 1) := by decide +kernel
theorem dX6_stepTo_30 : decode cX6_stepTo 30 = .ok (.invokevirtual 79, 3) := by decide +kernel
theorem dX6_stepTo_33 : decode cX6_stepTo 33 = .ok (.ireturn, 1) := by decide +kernel
theorem dX6_logLength_0 : decode cX6_logLength 0 = .ok (.aload_n 0, 1) := by decide +kernel
theorem dX6_logLength_1 : decode cX6_logLength 1 = .ok (.iload_n 1, 1) := by decide +kernel
theorem dX6_logLength_2 : decode cX6_logLength 2 = .ok (.bipush 8, 2) := by decide +kernel
theorem dX6_logLength_4 : decode cX6_logLength 4 = .ok (.invokevirtual 145, 3) := by decide +kernel
theorem dX6_logLength_7 : decode cX6_logLength 7 = .ok (.ireturn, 1) := by decide +kernel
theorem dX6_loggedStep_0 : decode cX6_loggedStep 0 = .ok (.aload_n 0, 1) := by decide +kernel
theorem dX6_loggedStep_1 : decode cX6_loggedStep 1 = .ok (.iload_n 1, 1) := by decide +kernel
theorem dX6_loggedStep_2 : decode cX6_loggedStep 2 = .ok (.invokevirtual 75, 3) := by decide +kernel
theorem dX6_loggedStep_5 : decode cX6_loggedStep 5 = .ok (.ifCond .ne 5, 3) := by decide +kernel
theorem dX6_loggedStep_8 : decode cX6_loggedStep 8 = .ok (.iconst 0, 1) := by decide +kernel
theorem dX6_loggedStep_9 : decode cX6_loggedStep 9 = .ok (.ireturn, 1) := by decide +kernel
theorem dX6_loggedStep_10 : decode cX6_loggedStep 10 = .ok (.iload_n 2, 1) := by decide +kernel
theorem dX6_loggedStep_11 : decode cX6_loggedStep 11 = .ok (.iconst 0, 1) := by decide +kernel
theorem dX6_loggedStep_12 : decode cX6_loggedStep 12 = .ok (.aload_n 0, 1) := by decide +kernel
theorem dX6_loggedStep_13 : decode cX6_loggedStep 13 = .ok (.iload_n 1, 1) := by decide +kernel
theorem dX6_loggedStep_14 : decode cX6_loggedStep 14 = .ok (.bipush 8, 2) := by decide +kernel
theorem dX6_loggedStep_16 : decode cX6_loggedStep 16 = .ok (.invokevirtual 40, 3) := by decide +kernel
theorem dX6_loggedStep_19 : decode cX6_loggedStep 19 = .ok (.iconst 1, 1) := by decide +kernel
theorem dX6_loggedStep_20 : decode cX6_loggedStep 20 = .ok (.isub, 1) := by decide +kernel
theorem dX6_loggedStep_21 : decode cX6_loggedStep 21 = .ok (.invokestatic 29, 3) := by decide +kernel
theorem dX6_loggedStep_24 : decode cX6_loggedStep 24 = .ok (.ifCond .eq 17, 3) := by decide +kernel
theorem dX6_loggedStep_27 : decode cX6_loggedStep 27 = .ok (.aload_n 0, 1) := by decide +kernel
theorem dX6_loggedStep_28 : decode cX6_loggedStep 28 = .ok (.iload_n 1, 1) := by decide +kernel
theorem dX6_loggedStep_29 : decode cX6_loggedStep 29 = .ok (.bipush 9, 2) := by decide +kernel
theorem dX6_loggedStep_31 : decode cX6_loggedStep 31 = .ok (.iconst 3, 1) := by decide +kernel
theorem dX6_loggedStep_32 : decode cX6_loggedStep 32 = .ok (.iload_n 2, 1) := by decide +kernel
theorem dX6_loggedStep_33 : decode cX6_loggedStep 33 = .ok (.imul, 1) := by decide +kernel
theorem dX6_loggedStep_34 : decode cX6_loggedStep 34 = .ok (.iadd, 1) := by decide +kernel
theorem dX6_loggedStep_35 : decode cX6_loggedStep 35 = .ok (.invokevirtual 40, 3) := by decide +kernel
theorem dX6_loggedStep_38 : decode cX6_loggedStep 38 = .ok (.goto 8, 3) := by decide +kernel
theorem dX6_loggedStep_41 : decode cX6_loggedStep 41 = .ok (.aload_n 0, 1) := by decide +kernel
theorem dX6_loggedStep_42 : decode cX6_loggedStep 42 = .ok (.iconst 1, 1) := by decide +kernel
theorem dX6_loggedStep_43 : decode cX6_loggedStep 43 = .ok (.invokevirtual 79, 3) := by decide +kernel
theorem dX6_loggedStep_46 : decode cX6_loggedStep 46 = .ok (.ireturn, 1) := by decide +kernel
theorem dX6_speedOf_0 : decode cX6_speedOf 0 = .ok (.aload_n 0, 1) := by decide +kernel
theorem dX6_speedOf_1 : decode cX6_speedOf 1 = .ok (.iload_n 1, 1) := by decide +kernel
theorem dX6_speedOf_2 : decode cX6_speedOf 2 = .ok (.invokevirtual 75, 3) := by decide +kernel
theorem dX6_speedOf_5 : decode cX6_speedOf 5 = .ok (.ifCond .eq 13, 3) := by decide +kernel
theorem dX6_speedOf_8 : decode cX6_speedOf 8 = .ok (.aload_n 0, 1) := by decide +kernel
theorem dX6_speedOf_9 : decode cX6_speedOf 9 = .ok (.iload_n 1, 1) := by decide +kernel
theorem dX6_speedOf_10 : decode cX6_speedOf 10 = .ok (.bipush 8, 2) := by decide +kernel
theorem dX6_speedOf_12 : decode cX6_speedOf 12 = .ok (.invokevirtual 40, 3) := by decide +kernel
theorem dX6_speedOf_15 : decode cX6_speedOf 15 = .ok (.ifCond .ne 5, 3) := by decide +kernel
theorem dX6_speedOf_18 : decode cX6_speedOf 18 = .ok (.dconst 0, 1) := by decide +kernel
theorem dX6_speedOf_19 : decode cX6_speedOf 19 = .ok (.dreturn, 1) := by decide +kernel
theorem dX6_speedOf_20 : decode cX6_speedOf 20 = .ok (.iconst 0, 1) := by decide +kernel
theorem dX6_speedOf_21 : decode cX6_speedOf 21 = .ok (.istore_n 2, 1) := by decide +kernel
theorem dX6_speedOf_22 : decode cX6_speedOf 22 = .ok (.iconst 0, 1) := by decide +kernel
theorem dX6_speedOf_23 : decode cX6_speedOf 23 = .ok (.istore_n 3, 1) := by decide +kernel
theorem dX6_speedOf_24 : decode cX6_speedOf 24 = .ok (.iconst 0, 1) := by decide +kernel
theorem dX6_speedOf_25 : decode cX6_speedOf 25 = .ok (.istore 4, 2) := by decide +kernel
theorem dX6_speedOf_27 : decode cX6_speedOf 27 = .ok (.iload 4, 2) := by decide +kernel
theorem dX6_speedOf_29 : decode cX6_speedOf 29 = .ok (.aload_n 0, 1) := by decide +kernel
theorem dX6_speedOf_30 : decode cX6_speedOf 30 = .ok (.iload_n 1, 1) := by decide +kernel
theorem dX6_speedOf_31 : decode cX6_speedOf 31 = .ok (.bipush 8, 2) := by decide +kernel
theorem dX6_speedOf_33 : decode cX6_speedOf 33 = .ok (.invokevirtual 40, 3) := by decide +kernel
theorem dX6_speedOf_36 : decode cX6_speedOf 36 = .ok (.if_icmp .ge 41, 3) := by decide +kernel
theorem dX6_speedOf_39 : decode cX6_speedOf 39 = .ok (.iload_n 2, 1) := by decide +kernel
theorem dX6_speedOf_40 : decode cX6_speedOf 40 = .ok (.aload_n 0, 1) := by decide +kernel
theorem dX6_speedOf_41 : decode cX6_speedOf 41 = .ok (.iload_n 1, 1) := by decide +kernel
theorem dX6_speedOf_42 : decode cX6_speedOf 42 = .ok (.bipush 9, 2) := by decide +kernel
theorem dX6_speedOf_44 : decode cX6_speedOf 44 = .ok (.iconst 3, 1) := by decide +kernel
theorem dX6_speedOf_45 : decode cX6_speedOf 45 = .ok (.iload 4, 2) := by decide +kernel
theorem dX6_speedOf_47 : decode cX6_speedOf 47 = .ok (.imul, 1) := by decide +kernel
theorem dX6_speedOf_48 : decode cX6_speedOf 48 = .ok (.iadd, 1) := by decide +kernel
theorem dX6_speedOf_49 : decode cX6_speedOf 49 = .ok (.invokevirtual 40, 3) := by decide +kernel
theorem dX6_speedOf_52 : decode cX6_speedOf 52 = .ok (.iadd, 1) := by decide +kernel
theorem dX6_speedOf_53 : decode cX6_speedOf 53 = .ok (.istore_n 2, 1) := by decide +kernel
theorem dX6_speedOf_54 : decode cX6_speedOf 54 = .ok (.iload_n 3, 1) := by decide +kernel
theorem dX6_speedOf_55 : decode cX6_speedOf 55 = .ok (.aload_n 0, 1) := by decide +kernel
theorem dX6_speedOf_56 : decode cX6_speedOf 56 = .ok (.iload_n 1, 1) := by decide +kernel
theorem dX6_speedOf_57 : decode cX6_speedOf 57 = .ok (.bipush 9, 2) := by decide +kernel
theorem dX6_speedOf_59 : decode cX6_speedOf 59 = .ok (.iconst 3, 1) := by decide +kernel
theorem dX6_speedOf_60 : decode cX6_speedOf 60 = .ok (.iload 4, 2) := by decide +kernel
theorem dX6_speedOf_62 : decode cX6_speedOf 62 = .ok (.imul, 1) := by decide +kernel
theorem dX6_speedOf_63 : decode cX6_speedOf 63 = .ok (.iadd, 1) := by decide +kernel
theorem dX6_speedOf_64 : decode cX6_speedOf 64 = .ok (.iconst 1, 1) := by decide +kernel
theorem dX6_speedOf_65 : decode cX6_speedOf 65 = .ok (.iadd, 1) := by decide +kernel
theorem dX6_speedOf_66 : decode cX6_speedOf 66 = .ok (.invokevirtual 40, 3) := by decide +kernel
theorem dX6_speedOf_69 : decode cX6_speedOf 69 = .ok (.iadd, 1) := by decide +kernel
theorem dX6_speedOf_70 : decode cX6_speedOf 70 = .ok (.istore_n 3, 1) := by decide +kernel
theorem dX6_speedOf_71 : decode cX6_speedOf 71 = .ok (.iinc 4 1, 3) := by decide +kernel
theorem dX6_speedOf_74 : decode cX6_speedOf 74 = .ok (.goto (-47), 3) := by decide +kernel
theorem dX6_speedOf_77 : decode cX6_speedOf 77 = .ok (.sipush 1000, 3) := by decide +kernel
theorem dX6_speedOf_80 : decode cX6_speedOf 80 = .ok (.iload_n 2, 1) := by decide +kernel
theorem dX6_speedOf_81 : decode cX6_speedOf 81 = .ok (.imul, 1) := by decide +kernel
theorem dX6_speedOf_82 : decode cX6_speedOf 82 = .ok (.i2d, 1) := by decide +kernel
theorem dX6_speedOf_83 : decode cX6_speedOf 83 = .ok (.iload_n 3, 1) := by decide +kernel
theorem dX6_speedOf_84 : decode cX6_speedOf 84 = .ok (.i2d, 1) := by decide +kernel
theorem dX6_speedOf_85 : decode cX6_speedOf 85 = .ok (.ddiv, 1) := by decide +kernel
theorem dX6_speedOf_86 : decode cX6_speedOf 86 = .ok (.dreturn, 1) := by decide +kernel
theorem dX6_errorsOf_0 : decode cX6_errorsOf 0 = .ok (.aload_n 0, 1) := by decide +kernel
theorem dX6_errorsOf_1 : decode cX6_errorsOf 1 = .ok (.iload_n 1, 1) := by decide +kernel
theorem dX6_errorsOf_2 : decode cX6_errorsOf 2 = .ok (.iconst 3, 1) := by decide +kernel
theorem dX6_errorsOf_3 : decode cX6_errorsOf 3 = .ok (.invokevirtual 145, 3) := by decide +kernel
theorem dX6_errorsOf_6 : decode cX6_errorsOf 6 = .ok (.ireturn, 1) := by decide +kernel
theorem dX6_slipsOf_0 : decode cX6_slipsOf 0 = .ok (.aload_n 0, 1) := by decide +kernel
theorem dX6_slipsOf_1 : decode cX6_slipsOf 1 = .ok (.iload_n 1, 1) := by decide +kernel
theorem dX6_slipsOf_2 : decode cX6_slipsOf 2 = .ok (.iconst 4, 1) := by decide +kernel
theorem dX6_slipsOf_3 : decode cX6_slipsOf 3 = .ok (.invokevirtual 145, 3) := by decide +kernel
theorem dX6_slipsOf_6 : decode cX6_slipsOf 6 = .ok (.ireturn, 1) := by decide +kernel
theorem dX6_distanceOf_0 : decode cX6_distanceOf 0 = .ok (.aload_n 0, 1) := by decide +kernel
theorem dX6_distanceOf_1 : decode cX6_distanceOf 1 = .ok (.iload_n 1, 1) := by decide +kernel
theorem dX6_distanceOf_2 : decode cX6_distanceOf 2 = .ok (.iconst 5, 1) := by decide +kernel
theorem dX6_distanceOf_3 : decode cX6_distanceOf 3 = .ok (.invokevirtual 145, 3) := by decide +kernel
theorem dX6_distanceOf_6 : decode cX6_distanceOf 6 = .ok (.ireturn, 1) := by decide +kernel
theorem dX6_ticksOf_0 : decode cX6_ticksOf 0 = .ok (.aload_n 0, 1) := by decide +kernel
theorem dX6_ticksOf_1 : decode cX6_ticksOf 1 = .ok (.iload_n 1, 1) := by decide +kernel
theorem dX6_ticksOf_2 : decode cX6_ticksOf 2 = .ok (.bipush 6, 2) := by decide +kernel
theorem dX6_ticksOf_4 : decode cX6_ticksOf 4 = .ok (.invokevirtual 145, 3) := by decide +kernel
theorem dX6_ticksOf_7 : decode cX6_ticksOf 7 = .ok (.ireturn, 1) := by decide +kernel
theorem dX6_counts_0 : decode cX6_counts 0 = .ok (.aload_n 0, 1) := by decide +kernel
theorem dX6_counts_1 : decode cX6_counts 1 = .ok (.iconst 0, 1) := by decide +kernel
theorem dX6_counts_2 : decode cX6_counts 2 = .ok (.putfield 25, 3) := by decide +kernel
theorem dX6_counts_5 : decode cX6_counts 5 = .ok (.aload_n 0, 1) := by decide +kernel
theorem dX6_counts_6 : decode cX6_counts 6 = .ok (.getfield 7, 3) := by decide +kernel
theorem dX6_counts_9 : decode cX6_counts 9 = .ok (.sipush 229, 3) := by decide +kernel
theorem dX6_counts_12 : decode cX6_counts 12 = .ok (.iaload, 1) := by decide +kernel
theorem dX6_counts_13 : decode cX6_counts 13 = .ok (.ireturn, 1) := by decide +kernel
theorem dX6_rule_0 : decode cX6_rule 0 = .ok (.aload_n 0, 1) := by decide +kernel
theorem dX6_rule_1 : decode cX6_rule 1 = .ok (.iconst 0, 1) := by decide +kernel
theorem dX6_rule_2 : decode cX6_rule 2 = .ok (.putfield 25, 3) := by decide +kernel
theorem dX6_rule_5 : decode cX6_rule 5 = .ok (.aload_n 0, 1) := by decide +kernel
theorem dX6_rule_6 : decode cX6_rule 6 = .ok (.getfield 7, 3) := by decide +kernel
theorem dX6_rule_9 : decode cX6_rule 9 = .ok (.sipush 228, 3) := by decide +kernel
theorem dX6_rule_12 : decode cX6_rule 12 = .ok (.iaload, 1) := by decide +kernel
theorem dX6_rule_13 : decode cX6_rule 13 = .ok (.ireturn, 1) := by decide +kernel
theorem dX6_recordedStates_0 : decode cX6_recordedStates 0 = .ok (.aload_n 0, 1) := by decide +kernel
theorem dX6_recordedStates_1 : decode cX6_recordedStates 1 = .ok (.iconst 0, 1) := by decide +kernel
theorem dX6_recordedStates_2 : decode cX6_recordedStates 2 = .ok (.putfield 25, 3) := by decide +kernel
theorem dX6_recordedStates_5 : decode cX6_recordedStates 5 = .ok (.aload_n 0, 1) := by decide +kernel
theorem dX6_recordedStates_6 : decode cX6_recordedStates 6 = .ok (.getfield 33, 3) := by decide +kernel
theorem dX6_recordedStates_9 : decode cX6_recordedStates 9 = .ok (.ireturn, 1) := by decide +kernel
end
section
/-! worlds: the objects of the class, the reference and the law's two arrays, at the addresses z, z+1 .. -/
abbrev Sg : Type := Nat → Nat → Int32
def up (σ : Sg) (k j : Nat) (v : Int32) : Sg := fun a b => if a = k ∧ b = j then v else σ a b
theorem up_ne {σ : Sg} {k j a : Nat} {v : Int32} (h : a ≠ k) : up σ k j v a = σ a := funext fun b => by simp [up, h]
/-- the words of the tables that hold anywhere: every contract's list behind its own code -/
def WA : List Cond := lw_tbl.filter goodWord
theorem wa_good : ∀ w ∈ WA, goodWord w = true := fun _ h => (List.mem_filter.mp h).2
theorem wa_tbl : ∀ w ∈ WA, w ∈ lw_tbl := fun _ h => (List.mem_filter.mp h).1
theorem mA0 {i : Nat} {w : Cond} (h : (k2_sels lw_privs)[i]? = some w) (hg : goodWord w = true) : w ∈ WA := List.mem_filter.mpr ⟨List.mem_append_left _ (List.mem_of_getElem? h), hg⟩
theorem mA1 {i : Nat} {w : Cond} (h : tables_1_1[i]? = some w) (hg : goodWord w = true) : w ∈ WA := List.mem_filter.mpr ⟨List.mem_append_right _ (List.mem_append_left _ (List.mem_of_getElem? h)), hg⟩
theorem mA2 {i : Nat} {w : Cond} (h : tables_1_2[i]? = some w) (hg : goodWord w = true) : w ∈ WA := List.mem_filter.mpr ⟨List.mem_append_right _ (List.mem_append_right _ (List.mem_append_left _ (List.mem_of_getElem? h))), hg⟩
theorem mA3 {i : Nat} {w : Cond} (h : tables_1_3[i]? = some w) (hg : goodWord w = true) : w ∈ WA := List.mem_filter.mpr ⟨List.mem_append_right _ (List.mem_append_right _ (List.mem_append_right _ (List.mem_append_left _ (List.mem_of_getElem? h)))), hg⟩
theorem mA4 {i : Nat} {w : Cond} (h : tables_1_4[i]? = some w) (hg : goodWord w = true) : w ∈ WA := List.mem_filter.mpr ⟨List.mem_append_right _ (List.mem_append_right _ (List.mem_append_right _ (List.mem_append_right _ (List.mem_append_left _ (List.mem_of_getElem? h))))), hg⟩
theorem mA5 {i : Nat} {w : Cond} (h : tables_1_5[i]? = some w) (hg : goodWord w = true) : w ∈ WA := List.mem_filter.mpr ⟨List.mem_append_right _ (List.mem_append_right _ (List.mem_append_right _ (List.mem_append_right _ (List.mem_append_right _ (List.mem_of_getElem? h))))), hg⟩
theorem wa_app {ws : List Cond} {w0 : Cond} (hs : ∀ w ∈ ws, w ∈ WA) (h0 : w0 ∈ WA) : GoodIn WA (ws ++ (w0 :: WA)) := by
  intro w hw
  have hm : w ∈ WA := by
    rcases List.mem_append.mp hw with h | h
    · exact hs w h
    · rcases List.mem_cons.mp h with h | h
      · rw [h]; exact h0
      · exact h
  exact ⟨hm, good_of_word (wa_good w hm)⟩
theorem wa_cons {w0 : Cond} (h0 : w0 ∈ WA) : GoodIn WA (w0 :: WA) := wa_app (ws := []) (fun _ h => nomatch h) h0
def mwl (z n : Nat) (f : Nat → va_E) : va_W := (List.range n).map fun k => (z + k, f k)
theorem mwl_len {z n : Nat} {f : Nat → va_E} : (mwl z n f).length = n := by simp [mwl]
theorem mwl_at {z n : Nat} {f : Nat → va_E} {k : Nat} (h : k < n) : (mwl z n f)[k]? = some (z + k, f k) := by simp [mwl, h]
theorem mwl_of {z n : Nat} {f : Nat → va_E} {k : Nat} {q : Nat × va_E} (h : (mwl z n f)[k]? = some q) : k < n ∧ q = (z + k, f k) := by
  have hl := (List.getElem?_eq_some_iff.mp h).1
  rw [mwl_len] at hl
  rw [mwl_at hl] at h
  exact ⟨hl, (Option.some.inj h).symm⟩
theorem mwl_D {z n : Nat} {f : Nat → va_E} : va_D (fun q => z ≤ q) (mwl z n f) := by
  refine ⟨fun i j p q hi hj hpq => ?_, fun k q hk => ?_⟩
  · obtain ⟨-, rfl⟩ := mwl_of hi
    obtain ⟨-, rfl⟩ := mwl_of hj
    dsimp only at hpq
    omega
  · obtain ⟨-, rfl⟩ := mwl_of hk
    exact Nat.le_add_right _ _
theorem mwl_congr {z n : Nat} {f g : Nat → va_E} (h : ∀ k, k < n → f k = g k) : mwl z n f = mwl z n g := by
  apply List.ext_getElem?
  intro i
  by_cases hi : i < n
  · rw [mwl_at hi, mwl_at hi, h i hi]
  · rw [List.getElem?_eq_none (by rw [mwl_len]; omega), List.getElem?_eq_none (by rw [mwl_len]; omega)]
theorem mwl_set {z n : Nat} {f : Nat → va_E} {k : Nat} {e : va_E} : (mwl z n f).set k (z + k, e) = mwl z n (fun j => if j = k then e else f j) := by
  apply List.ext_getElem?
  intro i
  by_cases hi : i < n
  · rw [mwl_at hi]
    by_cases hk : k = i
    · subst hk
      rw [List.getElem?_set_self (by rw [mwl_len]; exact hi)]
      simp
    · rw [List.getElem?_set_ne hk, mwl_at hi, if_neg (Ne.symm hk)]
  · rw [List.getElem?_eq_none (by rw [List.length_set, mwl_len]; omega), List.getElem?_eq_none (by rw [mwl_len]; omega)]
/-- what stands at z + k: the number of its class, or 7 and on for arrays -/
abbrev chr (x : Int32) : Int32 := (x.toUInt32 % 65536).toInt32
def kd (k : Nat) : Nat :=
  if k = 0 then 5 else if k = 40 then 3 else if k = 93 then 2 else if k = 94 then 8 else if k = 95 then 6 else if 95 ≤ k then (if k ≤ 102 then k - 86 else 99)
  else
    let r := (if k < 40 then k - 1 else k - 41) % 13
    if r = 0 then 0 else if (r - 1) % 3 = 0 then 4 else if (r - 1) % 3 = 1 then 1 else 7
theorem kd_lt {k : Nat} (h : kd k ≠ 99) : k < 103 := by
  apply Nat.lt_of_not_le
  intro hk
  apply h
  unfold kd
  rw [if_neg (by omega), if_neg (by omega), if_neg (by omega), if_neg (by omega), if_neg (by omega), if_pos (by omega), if_neg (by omega)]
def ent (z : Nat) (cy : Nat → ClassId) (σ τ : Sg) (o : Int64) (d : UInt64) (k : Nat) : va_E := match kd k with
  | 0 => .inr (0, [.ref (z + (k + 1)), .ref (z + (k + 4)), .ref (z + (k + 7)), .ref (z + (k + 10)), .int (σ k 4), .int (σ k 5)])
  | 1 => .inr (1, [.ref (z + (k + 1)), .int (σ k 1), .int (σ k 2)])
  | 2 => .inr (2, [.ref (z + (k + 1)), .int (σ k 1)])
  | 3 => .inr (3, [.ref (z + (k + 1)), .ref (z + (k + 14)), .ref (z + (k + 27)), .ref (z + (k + 40)), .int (σ k 4), .int (σ k 5)])
  | 4 => .inr (4, [.ref (z + (k + 1)), .int (σ k 1), .int (σ k 2), .int (σ k 3), .int (σ k 4), .int (σ k 5), .int (σ k 6), .int (σ k 7), .int (σ k 8), .int (σ k 9), .int (σ k 10), .int (σ k 11)])
  | 5 => .inr (5, [.ref (z + (k + 1)), .ref (z + (k + 14)), .ref (z + (k + 27)), .ref (z + (k + 40)), .ref (z + (k + 93)), .int (σ k 5)])
  | 6 => .inr (6, [.ref (z + (k + 1)), .ref (z + (k + 2)), .int (τ 0 2), .ref (z + (k + 3)), .int (τ 0 4), .ref (z + (k + 4)), .ref (z + (k + 5)), .int (τ 0 7), .int (τ 0 8), .int (τ 0 9), .int (τ 0 10), .int (τ 0 11)])
  | 7 => .inl (cy 0, 48, .inl (σ k))
  | 8 => .inl (cy 1, 80, .inl (fun i => chr (σ k i)))
  | 10 => .inl (cy 0, 230, .inl (τ 1))
  | 11 => .inl (cy 0, 920, .inl (τ 2))
  | 12 => .inl (cy 0, 230, .inl (τ 3))
  | 13 => .inl (cy 0, 230, .inl (τ 4))
  | 14 => .inl (cy 0, 80, .inl (τ 5))
  | 15 => .inl (cy 2, 1, .inr (.inl (fun _ => o)))
  | 16 => .inl (cy 3, 1, .inr (.inr (.inr (.inl (fun _ => d)))))
  | _ => .inl (cy 0, 0, .inl (σ k))
theorem ent_0 {z : Nat} {cy : Nat → ClassId} {σ τ : Sg} {o : Int64} {d : UInt64} {k : Nat} (h : kd k = 0) : ent z cy σ τ o d k = .inr (0, [.ref (z + (k + 1)), .ref (z + (k + 4)), .ref (z + (k + 7)), .ref (z + (k + 10)), .int (σ k 4), .int (σ k 5)]) := by simp only [ent, h]
theorem ent_1 {z : Nat} {cy : Nat → ClassId} {σ τ : Sg} {o : Int64} {d : UInt64} {k : Nat} (h : kd k = 1) : ent z cy σ τ o d k = .inr (1, [.ref (z + (k + 1)), .int (σ k 1), .int (σ k 2)]) := by simp only [ent, h]
theorem ent_2 {z : Nat} {cy : Nat → ClassId} {σ τ : Sg} {o : Int64} {d : UInt64} {k : Nat} (h : kd k = 2) : ent z cy σ τ o d k = .inr (2, [.ref (z + (k + 1)), .int (σ k 1)]) := by simp only [ent, h]
theorem ent_3 {z : Nat} {cy : Nat → ClassId} {σ τ : Sg} {o : Int64} {d : UInt64} {k : Nat} (h : kd k = 3) : ent z cy σ τ o d k = .inr (3, [.ref (z + (k + 1)), .ref (z + (k + 14)), .ref (z + (k + 27)), .ref (z + (k + 40)), .int (σ k 4), .int (σ k 5)]) := by simp only [ent, h]
theorem ent_4 {z : Nat} {cy : Nat → ClassId} {σ τ : Sg} {o : Int64} {d : UInt64} {k : Nat} (h : kd k = 4) : ent z cy σ τ o d k = .inr (4, [.ref (z + (k + 1)), .int (σ k 1), .int (σ k 2), .int (σ k 3), .int (σ k 4), .int (σ k 5), .int (σ k 6), .int (σ k 7), .int (σ k 8), .int (σ k 9), .int (σ k 10), .int (σ k 11)]) := by simp only [ent, h]
theorem ent_5 {z : Nat} {cy : Nat → ClassId} {σ τ : Sg} {o : Int64} {d : UInt64} {k : Nat} (h : kd k = 5) : ent z cy σ τ o d k = .inr (5, [.ref (z + (k + 1)), .ref (z + (k + 14)), .ref (z + (k + 27)), .ref (z + (k + 40)), .ref (z + (k + 93)), .int (σ k 5)]) := by simp only [ent, h]
theorem ent_6 {z : Nat} {cy : Nat → ClassId} {σ τ : Sg} {o : Int64} {d : UInt64} {k : Nat} (h : kd k = 6) : ent z cy σ τ o d k = .inr (6, [.ref (z + (k + 1)), .ref (z + (k + 2)), .int (τ 0 2), .ref (z + (k + 3)), .int (τ 0 4), .ref (z + (k + 4)), .ref (z + (k + 5)), .int (τ 0 7), .int (τ 0 8), .int (τ 0 9), .int (τ 0 10), .int (τ 0 11)]) := by simp only [ent, h]
theorem ent_7 {z : Nat} {cy : Nat → ClassId} {σ τ : Sg} {o : Int64} {d : UInt64} {k : Nat} (h : kd k = 7) : ent z cy σ τ o d k = .inl (cy 0, 48, .inl (σ k)) := by simp only [ent, h]
theorem ent_8 {z : Nat} {cy : Nat → ClassId} {σ τ : Sg} {o : Int64} {d : UInt64} {k : Nat} (h : kd k = 8) : ent z cy σ τ o d k = .inl (cy 1, 80, .inl (fun i => chr (σ k i))) := by simp only [ent, h]
theorem ent_10 {z : Nat} {cy : Nat → ClassId} {σ τ : Sg} {o : Int64} {d : UInt64} {k : Nat} (h : kd k = 10) : ent z cy σ τ o d k = .inl (cy 0, 230, .inl (τ 1)) := by simp only [ent, h]
theorem ent_11 {z : Nat} {cy : Nat → ClassId} {σ τ : Sg} {o : Int64} {d : UInt64} {k : Nat} (h : kd k = 11) : ent z cy σ τ o d k = .inl (cy 0, 920, .inl (τ 2)) := by simp only [ent, h]
theorem ent_12 {z : Nat} {cy : Nat → ClassId} {σ τ : Sg} {o : Int64} {d : UInt64} {k : Nat} (h : kd k = 12) : ent z cy σ τ o d k = .inl (cy 0, 230, .inl (τ 3)) := by simp only [ent, h]
theorem ent_13 {z : Nat} {cy : Nat → ClassId} {σ τ : Sg} {o : Int64} {d : UInt64} {k : Nat} (h : kd k = 13) : ent z cy σ τ o d k = .inl (cy 0, 230, .inl (τ 4)) := by simp only [ent, h]
theorem ent_14 {z : Nat} {cy : Nat → ClassId} {σ τ : Sg} {o : Int64} {d : UInt64} {k : Nat} (h : kd k = 14) : ent z cy σ τ o d k = .inl (cy 0, 80, .inl (τ 5)) := by simp only [ent, h]
theorem ent_15 {z : Nat} {cy : Nat → ClassId} {σ τ : Sg} {o : Int64} {d : UInt64} {k : Nat} (h : kd k = 15) : ent z cy σ τ o d k = .inl (cy 2, 1, .inr (.inl (fun _ => o))) := by simp only [ent, h]
theorem ent_16 {z : Nat} {cy : Nat → ClassId} {σ τ : Sg} {o : Int64} {d : UInt64} {k : Nat} (h : kd k = 16) : ent z cy σ τ o d k = .inl (cy 3, 1, .inr (.inr (.inr (.inl (fun _ => d))))) := by simp only [ent, h]
theorem ent_up_ne {z : Nat} {cy : Nat → ClassId} {σ τ : Sg} {o : Int64} {d : UInt64} {k f j : Nat} {v : Int32} (h : j ≠ k) : ent z cy (up σ k f v) τ o d j = ent z cy σ τ o d j := by
  unfold ent
  rw [up_ne h]
def tyc (cy : Nat → ClassId) : List (ClassId × FieldType) := [(cy 0, .int), (cy 1, .char), (cy 2, .long), (cy 3, .double)]
/-- the nest mates' words -/
def nestW : List Cond := [.fieldLinkNest RX5 111 RX2 "length" "I" "QuadSnail", .fieldLinkNest RX5 139 RX3 "length" "I" "QuadSnail", .fieldLinkNest RX5 154 RX4 "state" "I" "QuadSnail", .fieldLinkNest RX5 157 RX4 "countA" "I" "QuadSnail", .fieldLinkNest RX5 160 RX4 "countB" "I" "QuadSnail", .fieldLinkNest RX5 163 RX4 "errorSteps" "I" "QuadSnail", .fieldLinkNest RX5 166 RX4 "offAtMarks" "I" "QuadSnail", .fieldLinkNest RX5 175 RX4 "direction" "I" "QuadSnail", .fieldLinkNest RX5 181 RX4 "log" "LQuadSnail$Log;" "QuadSnail", .fieldLinkNest RX5 185 RX1 "length" "I" "QuadSnail", .fieldLinkNest RX5 200 RX4 "errors" "I" "QuadSnail", .fieldLinkNest RX5 203 RX4 "slips" "I" "QuadSnail", .fieldLinkNest RX5 206 RX4 "distance" "I" "QuadSnail", .fieldLinkNest RX5 209 RX4 "ticks" "I" "QuadSnail", .fieldLinkNest RX5 51 RX0 "rule" "I" "QuadSnail", .fieldLinkNest RX5 84 RX4 "position" "I" "QuadSnail", .fieldLinkNest RX5 87 RX0 "counts" "I" "QuadSnail", .fieldLinkNest RX0 34 RX4 "position" "I" "QuadSnail", .fieldLinkNest RX4 49 RX1 "length" "I" "QuadSnail", .methodLinkNest RX5 24 yX3_init "QuadSnail", .methodLinkNest RX5 31 yX2_init "QuadSnail", .methodLinkNest RX5 9 yX0_init "QuadSnail", .methodLinkNest RX0 11 yX4_init "QuadSnail", .methodLinkNest RX3 11 yX0_init "QuadSnail", .methodLinkNest RX4 11 yX1_init "QuadSnail", .castable "java/lang/IndexOutOfBoundsException" "java/lang/IndexOutOfBoundsException", .castable "java/lang/IllegalArgumentException" "java/lang/IllegalArgumentException", .castable "java/lang/IllegalStateException" "java/lang/IllegalStateException", .declares ⟨"java/lang/RuntimeException", "<init>", "(Ljava/lang/String;)V"⟩, .declares ⟨"java/lang/Exception", "<init>", "(Ljava/lang/String;)V"⟩, .declares ⟨"java/lang/Throwable", "<init>", "(Ljava/lang/String;)V"⟩]
def isNest : Cond → Bool
  | .fieldLinkNest _ _ _ _ _ _ => true
  | .methodLinkNest _ _ _ _ => true
  | .castable _ _ => true
  | .declares _ => true
  | _ => false
theorem nestW_ok : nestW.all isNest = true := by decide +kernel
theorem nw_warm {w : Cond} {s U : State} (hn : isNest w = true) (hW : s.WarmedH U.vm) (h : va_Nw w s) : va_Nw w U := by
  cases w <;> first | (simp [isNest] at hn; done) | exact va_Nw.warmF hW h | exact va_Nw.warmM hW h | exact va_Nw.warmC hW h | exact va_Nw.warmD hW h
theorem nw_onT {w : Cond} (hn : isNest w = true) : w.onTables = true := by
  cases w <;> first | (simp [isNest] at hn; done) | rfl
def strW : List (Nat × String) := [(101, "the way back is not in the log, or too long"), (107, "no such rule"), (109, "no such counts"), (114, "the text is full"), (134, "an order cannot be carried out"), (140, "no state is recorded"), (152, "there is no snapshot"), (190, "no such log entry"), (212, "no such snail"), (214, "state out of range"), (220, "ticks or distance too great"), (222, "the text is not valid"), (46, "ticks out of range"), (79, "steps out of range"), (93, "feelings out of range")]
/-- what stays true of every state of a run: classes, tables, the two statics of Throwable -/
def Amb (D : va_G) (cy : Nat → ClassId) (z : Nat) (U : State) (H : Heap) : Prop :=
  va_K D vwCl (tyc cy) U ∧ (∀ w ∈ nestW, va_Nw w U) ∧ (∀ q ∈ strW, ∃ sa, vk_R RX5 q.1 q.2 sa U) ∧ vx_Zq Bundle.tN "UNASSIGNED_STACK" Bundle.steD (fun q => z ≤ q) U H ∧ vx_Zq Bundle.tN "SUPPRESSED_SENTINEL" Bundle.listD (fun q => z ≤ q) U H
theorem Amb.same {D : va_G} {cy : Nat → ClassId} {z : Nat} {u U : State} {H : Heap} (h : Amb D cy z u H) (hv : u.vm = U.vm) : Amb D cy z U H := by
  have ha : u.vm.Alike U.vm := by rw [hv]; exact Vm.Alike.refl U.vm
  obtain ⟨h1, h2, h3, h4, h5⟩ := h
  refine ⟨va_K.moved ha h1, fun w hw => va_Nw.same (nw_onT (List.all_eq_true.mp nestW_ok w hw)) hv (h2 w hw), fun q hq => ?_, h4.moved ha, h5.moved ha⟩
  obtain ⟨sa, h⟩ := h3 q hq
  exact ⟨sa, vk_R.same hv.symm h⟩
theorem Amb.warm {D : va_G} {cy : Nat → ClassId} {z : Nat} {s U : State} {H H1 : Heap} (h : Amb D cy z s H) (hW : s.WarmedH U.vm) (hq : ∀ a : Nat, a < H.size → ¬ (z ≤ a) → H1[a]? = H[a]?) : Amb D cy z U H1 := by
  have ha := hW.alike
  obtain ⟨h1, h2, h3, h4, h5⟩ := h
  refine ⟨va_K.moved ha h1, fun w hw => nw_warm (List.all_eq_true.mp nestW_ok w hw) hW (h2 w hw), fun q hq => ?_, (h4.moved ha).kept hq, (h5.moved ha).kept hq⟩
  obtain ⟨sa, h⟩ := h3 q hq
  exact ⟨sa, vk_R.warm hW h⟩
/-- the world -/
def WP (D : va_G) (cy : Nat → ClassId) (z : Nat) (σ τ : Sg) (o : Int64) (d : UInt64) (H : Heap) : Prop := va_P D vwCl (mwl z 103 (ent z cy σ τ o d)) H
theorem WP.put {D : va_G} {cy : Nat → ClassId} {z : Nat} {σ τ σ' τ' : Sg} {o o' : Int64} {d d' : UInt64} {H : Heap} {k : Nat} {e : va_E} (hP : va_P D vwCl ((mwl z 103 (ent z cy σ τ o d)).set k (z + k, e)) H)
    (he : e = ent z cy σ' τ' o' d' k) (hne : ∀ j, j ≠ k → ent z cy σ τ o d j = ent z cy σ' τ' o' d' j) : WP D cy z σ' τ' o' d' H := by
  rw [mwl_set] at hP
  unfold WP
  rw [← mwl_congr (f := fun j => if j = k then e else ent z cy σ τ o d j) (fun j _ => ?_)]
  · exact hP
  · by_cases hj : j = k
    · subst hj
      rw [if_pos rfl]
      exact he
    · rw [if_neg hj]
      exact hne j hj
theorem WP.put1 {D : va_G} {cy : Nat → ClassId} {z : Nat} {σ τ : Sg} {o : Int64} {d : UInt64} {H : Heap} {k j : Nat} {v : Int32} {e : va_E} (hP : va_P D vwCl ((mwl z 103 (ent z cy σ τ o d)).set k (z + k, e)) H)
    (he : e = ent z cy (up σ k j v) τ o d k) : WP D cy z (up σ k j v) τ o d H := WP.put hP he fun _ h => (ent_up_ne h).symm
/-- what a method's body has at hand -/
def Bd (p : Program) (s : State) (m : MethodId) (args : Array Value) (meth : Method) (c : Code) (cc : ByteArray) (nl : Nat) (rt : Option FieldType) (own : String) (D : va_G) (cy : Nat → ClassId) (z : Nat) : Prop :=
  p.tables.exec = Jvm.exec ∧ c.code = cc ∧ meth.sig.returnType = rt ∧ c.maxLocals = nl ∧ s.vm.findClass own = some m.cls ∧ (∀ w ∈ WA, w.before args s = true) ∧ meth.locks = false ∧ Amb D cy z s s.heap
def Pre (D : va_G) (cy : Nat → ClassId) (z : Nat) (As : List Value) (σ τ : Sg) (o : Int64) (d : UInt64) : Array Value → State → Prop := va_Pc As (fun U => WP D cy z σ τ o d U.heap ∧ Amb D cy z U U.heap)
theorem Pre.blind {D : va_G} {cy : Nat → ClassId} {z : Nat} {As : List Value} {σ τ : Sg} {o : Int64} {d : UInt64} : FrameBlind (Pre D cy z As σ τ o d) := by
  intro a U g mk h
  obtain ⟨h1, h2, h3⟩ := h
  exact ⟨h1, h2, h3.same (U := U.calling g mk a) rfl⟩
def PoI (D : va_G) (cy : Nat → ClassId) (z : Nat) (o : Int64) (d : UInt64) (r : Int32) (σ τ : Sg) : Array Value → State → Outcome → State → Prop := va_Qi (fun (x : Int32) (_ : Unit) => x = r) (fun _ U => WP D cy z σ τ o d U.heap) (fun q => z ≤ q)
def PoV (D : va_G) (cy : Nat → ClassId) (z : Nat) (o : Int64) (d : UInt64) (σ τ : Sg) : Array Value → State → Outcome → State → Prop := va_Qv (fun (_ : Unit) => True) (fun _ U => WP D cy z σ τ o d U.heap) (fun q => z ≤ q)
def PoR (D : va_G) (cy : Nat → ClassId) (z : Nat) (o : Int64) (d : UInt64) (r : Nat) (σ τ : Sg) : Array Value → State → Outcome → State → Prop := va_Qr (fun (_ : Unit) => True) (fun _ a U => a = z + r ∧ WP D cy z σ τ o d U.heap) (fun q => z ≤ q)
abbrev fz (z : Nat) : Addr → Prop := fun q => z ≤ q
/-- contracts: an answer that is an int, none, a cell of the world -/
def KI (l : Launch) (y : MethodName) (bc : ByteArray) (nl : Nat) (rt : Option FieldType) (rm : Room) (D : va_G) (cy : Nat → ClassId) (z : Nat) (As : List Value) (o : Int64) (d : UInt64) (σ τ : Sg) (r : Int32) (σ' τ' : Sg) : Prop :=
  Met l y (.code y bc nl rt :: WA) rm (Pre D cy z As σ τ o d) (PoI D cy z o d r σ' τ') 0 0 (fz z)
def KV (l : Launch) (y : MethodName) (bc : ByteArray) (nl : Nat) (rm : Room) (D : va_G) (cy : Nat → ClassId) (z : Nat) (As : List Value) (o : Int64) (d : UInt64) (σ τ : Sg) (σ' τ' : Sg) : Prop :=
  Met l y (.code y bc nl none :: WA) rm (Pre D cy z As σ τ o d) (PoV D cy z o d σ' τ') 0 0 (fz z)
def KR (l : Launch) (y : MethodName) (bc : ByteArray) (nl : Nat) (rt : Option FieldType) (rm : Room) (D : va_G) (cy : Nat → ClassId) (z : Nat) (As : List Value) (o : Int64) (d : UInt64) (σ τ : Sg) (r : Nat) (σ' τ' : Sg) : Prop :=
  Met l y (.code y bc nl rt :: WA) rm (Pre D cy z As σ τ o d) (PoR D cy z o d r σ' τ') 0 0 (fz z)
/-- a method that no entry of the machine's own runs instead -/
theorem met_body {l : Launch} {y : MethodName} {ws ws' : List Cond} {rm : Room} {Pc : Array Value → State → Prop} {Qc : Array Value → State → Outcome → State → Prop} {mc ms : Nat} {free : Addr → Prop} {cc : ByteArray} {maxL : Nat} {ret : Option FieldType}
    (hy : plainFor y = true) (hw : ws = Cond.code y cc maxL ret :: ws')
    (body : ∀ p e s m args below meth c s₁, BodyLoose p l y (headSpec ws rm) cc maxL ret e s m args below meth c s₁ → c.maxLocals = maxL → Pc args s → W p l e (headSpec ws rm).room s m args below meth c s.heap [] 0 0 (MQ below Qc args s mc ms free) (entryFrame m args maxL)) : Met l y ws rm Pc Qc mc ms free := by
  refine MetFree.of_bodySF (code := cc) (maxLocals := maxL) (ret := ret) hy ?_ ?_
  · intro args s m h hn
    obtain ⟨meth, c, h1, h2, h3, h4, h5, h6, -, -⟩ := Cond.code_spec hn (atoms_spec (ws := ws) h _ (by rw [hw]; exact List.mem_cons_self))
    exact ⟨meth, c, h1, h2, h3, h4, h5, h6⟩
  · intro p e s m args below meth c s₁ B hml hP _
    have hh0 : s₁.heap = s.heap := by rw [B.state]; rfl
    obtain ⟨t, a1, o, b1, b2, b3⟩ := body p e s m args below meth c s₁ B hml hP s₁ hh0 (Stand.of_body B)
    exact ⟨t, o, a1, b1, b2, ⟨b3.1, b3.2⟩⟩
/-- the frame of a proof: from the words to the walk -/
theorem met_of {l : Launch} {y : MethodName} {bc : ByteArray} {nl : Nat} {rt : Option FieldType} {rm : Room} {D : va_G} {cy : Nat → ClassId} {z : Nat} {As : List Value} {o : Int64} {d : UInt64} {σ τ : Sg} {Qc : Array Value → State → Outcome → State → Prop} (own : String) (hy : plainFor y = true) (ho : y.cls = own) (hn : (lg_sl As).length ≤ nl)
    (body : ∀ p e s m args below meth c, Bd p s m args meth c bc nl rt own D cy z → WP D cy z σ τ o d s.heap → va_S (fz z) s.heap s.heap [] → ∀ ls : Array Slot, lv_has ls nl (lv_args 0 As) → W p l e rm s m args below meth c s.heap [] 0 0 (MQ below Qc args s 0 0 (fz z)) (F0 m 0 ls [])) :
    Met l y (.code y bc nl rt :: WA) rm (Pre D cy z As σ τ o d) Qc 0 0 (fz z) := by
  refine met_body (cc := bc) (maxL := nl) (ret := rt) hy rfl ?_
  intro p e s m args below meth c s₁ B hml hv
  obtain ⟨rfl, hP, hAm⟩ := hv
  have hts := atoms_spec (ws := .code y bc nl rt :: WA) B.pre
  have hown : s.vm.findClass own = some m.cls := by rw [← ho]; exact findClass_of_methodNamed B.named
  rw [lg_entry_eq]
  exact body p e s m As.toArray below meth c ⟨B.exec, B.bytes, B.returns, hml, hown, fun w h => hts w (List.mem_cons_of_mem _ h), B.notSynchronized, hAm⟩ hP va_S.rf _ (lv_entry As hn)
end
section
theorem vpin_of {x : Int32} {n : Nat} {N : Int32} (h1 : ¬ x < 0) (h2 : ¬ N ≤ x) (hN : N.toInt = n) : vp_in x n := by
  rw [vp_in_iff]
  have a : 0 ≤ x.toInt := by
    have := Int32.not_lt.mp h1
    have := Int32.le_iff_toInt_le.mp this
    simpa using this
  have b : x.toInt < N.toInt := by
    have := Int32.not_le.mp h2
    exact Int32.lt_iff_toInt_lt.mp this
  exact ⟨a, by rw [← hN]; exact b⟩
theorem vpin_of' {x : Int32} {n : Nat} {N : Int32} (h1 : ¬ x < 0) (h2 : x < N) (hN : N.toInt = n) : vp_in x n := vpin_of h1 (Int32.not_le.mpr h2) hN
theorem cI_le {x y : Int32} {a b : Nat} (hx : x = nI a) (hy : y = nI b) (ha : a < 2 ^ 31) (hb : b < 2 ^ 31) : x ≤ y ↔ a ≤ b := by rw [hx, hy]; exact nI_leI ha hb
theorem cI_lt {x y : Int32} {a b : Nat} (hx : x = nI a) (hy : y = nI b) (ha : a < 2 ^ 31) (hb : b < 2 ^ 31) : x < y ↔ a < b := by rw [hx, hy]; exact nI_ltI ha hb
theorem cI_eq {x y : Int32} {a b : Nat} (hx : x = nI a) (hy : y = nI b) (ha : a < 2 ^ 31) (hb : b < 2 ^ 31) : x = y ↔ a = b := by rw [hx, hy]; exact nI_eq ha hb
/-- lengths: of a log (its cell), of the text -/
def Ln (σ : Sg) (k : Nat) : Nat := (σ k 2).toNatClampNeg
def TL (σ : Sg) (k : Nat) : Nat := (σ k 1).toNatClampNeg
def LGA (σ : Sg) : Prop := ∀ q, kd q = 1 → ∃ L : Nat, L ≤ 16 ∧ σ q 2 = nI L
def TXA (σ : Sg) : Prop := ∀ q, kd q = 2 → ∃ L : Nat, L ≤ 80 ∧ σ q 1 = nI L
theorem LGA.of {σ : Sg} (h : LGA σ) {k : Nat} (hk : kd k = 1) : σ k 2 = nI (Ln σ k) ∧ Ln σ k ≤ 16 := by
  obtain ⟨L, h1, h2⟩ := h k hk
  have : Ln σ k = L := by unfold Ln; rw [h2]; exact nI_clamp (by omega)
  rw [this]
  exact ⟨h2, h1⟩
theorem TXA.of {σ : Sg} (h : TXA σ) {k : Nat} (hk : kd k = 2) : σ k 1 = nI (TL σ k) ∧ TL σ k ≤ 80 := by
  obtain ⟨L, h1, h2⟩ := h k hk
  have : TL σ k = L := by unfold TL; rw [h2]; exact nI_clamp (by omega)
  rw [this]
  exact ⟨h2, h1⟩
theorem i32_nat (x : Int32) : x.toInt ≤ (x.toNatClampNeg : Int) ∧ (0 ≤ x.toInt → (x.toNatClampNeg : Int) = x.toInt) := by
  have h : x.toNatClampNeg = x.toInt.toNat := rfl
  rw [h]
  exact ⟨Int.self_le_toNat _, fun h => Int.toNat_of_nonneg h⟩
theorem cr_s {x : Int32} {L : Nat} (hx : -1000 ≤ x.toInt ∧ x.toInt ≤ 1000000) (hL : L ≤ 16) (h : x ≤ nI L) : (nI L - x).toInt = (L : Int) - x.toInt ∧ x.toInt ≤ L := by
  have h1 : (nI L).toInt = (L : Int) := nI_toInt (by omega)
  have h2 : x.toInt ≤ L := by rw [← h1]; exact Int32.le_iff_toInt_le.mp h
  refine ⟨?_, h2⟩
  rw [Int32.toInt_sub, h1]
  apply Int.bmod_eq_of_le <;> omega
theorem cr_a {x : Int32} {L : Nat} (hx : -1000 ≤ x.toInt ∧ x.toInt ≤ 1000000) (hL : L ≤ 16) (h : x ≤ nI L) : nI L - x = nI ((nI L - x).toNatClampNeg) := by
  obtain ⟨h1, h2⟩ := cr_s hx hL h
  have h3 := (i32_nat (nI L - x)).2 (by omega)
  apply Int32.toInt_inj.mp
  rw [nI_toInt (by omega), h3]
theorem cr_b {x : Int32} {L : Nat} (hx : -1000 ≤ x.toInt ∧ x.toInt ≤ 1000000) (hL : L ≤ 16) (h : x ≤ nI L) : (nI L - x).toNatClampNeg ≤ 1016 := by
  obtain ⟨h1, h2⟩ := cr_s hx hL h
  have h3 := (i32_nat (nI L - x)).2 (by omega)
  omega
theorem re_b {x : Int32} {i n : Nat} (h : ¬ x ≤ nI i) (hn : x.toInt ≤ 1000000 ∧ (i = 0 ∨ (i : Int) ≤ x.toInt) ∧ x.toInt + 1 ≤ (i : Int) + ((n + 1 : Nat) : Int) ∧ 1 ≤ n + 1) : x.toInt ≤ 1000000 ∧ (i + 1 = 0 ∨ ((i + 1 : Nat) : Int) ≤ x.toInt) ∧ x.toInt + 1 ≤ ((i + 1 : Nat) : Int) + (n : Int) ∧ 1 ≤ n := by
  have h1 : (nI i).toInt = (i : Int) := nI_toInt (by omega)
  have h2 : (i : Int) < x.toInt := by
    rw [← h1]
    exact Int32.lt_iff_toInt_lt.mp (Int32.not_le.mp h)
  omega
theorem ne0_lt1 {x : Int32} (h : ¬ x < 1) : ¬ x = 0 := fun e => h (by rw [e]; decide)
theorem ne0_le1 {x : Int32} (h : 1 ≤ x) : ¬ x = 0 := fun e => absurd h (by rw [e]; decide)
theorem nar_z1 : narrow .boolean (.int 1) = .int 1 := by decide
theorem nar_z0 : narrow .boolean (.int 0) = .int 0 := by decide
theorem nar_i (x : Int32) : narrow .int (.int x) = .int x := rfl
theorem nar_c (x : Int32) : narrow .char (.int (chr x)) = .int (chr x) := pk_nc x
theorem chr_nar (x : Int32) : vp_nar .char x = chr x := by simp [chr, vp_nar, narrow]
section Rows
variable {p : Program} {l : Launch} {e : Env} {Rm : Room} {s : State} {m : MethodId} {args : Array Value} {below : List Frame} {meth : Method} {c : Code} {H : Heap} {locs : List Loc} {cells slots : Nat} {Q : State → Prop}
variable {cc : ByteArray} {nl : Nat} {rt : Option FieldType} {own : String} {D : va_G} {cy : Nat → ClassId} {z : Nat} {σ τ σ' τ' : Sg} {o : Int64} {d : UInt64} {pc : Nat} {ls : Array Slot} {rest st : List Value}
/-- a field is read -/
theorem g_get (C : Bd p s m args meth c cc nl rt own D cy z) (hP : WP D cy z σ τ o d H) {k ci j idx N : Nat} {fs : List Value} {T : u_T} {R : String} {v : Value} (hk : kd k ≠ 99) (he : ent z cy σ τ o d k = .inr (ci, fs)) (hc : vwCl[ci]? = some (R, T, N)) (hin : ∀ w ∈ u_ws R T N, w ∈ WA) (hj : j < N) (hd1 : (T j).1 = R)
    (hl : Cond.fieldLink own idx R (T j).2.1 (T j).2.2.1 ∈ WA) (hv : fs[j]? = some v) (hdg : decode cc pc = .ok (.getfield idx, 3)) (kk : W p l e Rm s m args below meth c H locs cells slots Q (F0 m (pc + 3) ls (v :: rest))) : W p l e Rm s m args below meth c H locs cells slots Q (F0 m pc ls (.ref (z + k) :: rest)) := by
  obtain ⟨hx, hb, hr, hml, hown, hW, hlocks, hAm⟩ := C
  exact va_get (D := D) (ci := ci) (v := v) (C := R) (T := T) (N := N) hx hb hW hin hown hAm.1 hP k (by rw [mwl_at (kd_lt hk), he]) hc j hj (hW _ hl) (fun x h => by rw [hd1] at h; exact h) hv hdg kk
theorem g_getN (C : Bd p s m args meth c cc nl rt own D cy z) (hP : WP D cy z σ τ o d H) {k ci j idx N : Nat} {fs : List Value} {T : u_T} {R host : String} {v : Value} (hk : kd k ≠ 99) (he : ent z cy σ τ o d k = .inr (ci, fs)) (hc : vwCl[ci]? = some (R, T, N)) (hin : ∀ w ∈ u_ws R T N, w ∈ WA) (hj : j < N) (hd1 : (T j).1 = R)
    (hl : Cond.fieldLinkNest own idx R (T j).2.1 (T j).2.2.1 host ∈ nestW) (hv : fs[j]? = some v) (hdg : decode cc pc = .ok (.getfield idx, 3)) (kk : W p l e Rm s m args below meth c H locs cells slots Q (F0 m (pc + 3) ls (v :: rest))) : W p l e Rm s m args below meth c H locs cells slots Q (F0 m pc ls (.ref (z + k) :: rest)) := by
  obtain ⟨hx, hb, hr, hml, hown, hW, hlocks, hAm⟩ := C
  exact va_getN (D := D) (ci := ci) (v := v) (C := R) (T := T) (N := N) hx hb hW hin hown hAm.1 hP k (by rw [mwl_at (kd_lt hk), he]) hc j hj (va_Nw.use rfl (hAm.2.1 _ hl)) (fun x h => by rw [hd1] at h; exact h) hv hdg kk
/-- a field is written -/
theorem g_put (C : Bd p s m args meth c cc nl rt own D cy z) (hP : WP D cy z σ τ o d H) (hS : va_S (fz z) s.heap H locs) {k ci j idx N : Nat} {fs : List Value} {T : u_T} {R : String} {v : Value} {ty : FieldType} {ty0 : Nat → FieldType} (hk : kd k ≠ 99) (he : ent z cy σ τ o d k = .inr (ci, fs)) (hc : vwCl[ci]? = some (R, T, N)) (hin : ∀ w ∈ u_ws R T N, w ∈ WA) (hty : ∀ k, k < N → parseFieldDescriptor (T k).2.2.1 = some (ty0 k)) (hnm : ∀ a, a < N → ∀ b, b < N → a ≠ b → (T a).2.1 ≠ (T b).2.1) (hj : j < N) (hd1 : (T j).1 = R) (hfin : (T j).2.2.2 = false) (hd : parseFieldDescriptor (T j).2.2.1 = some ty) (hn : narrow ty v = v) (hfit : fits ty v = true)
    (hl : Cond.fieldLink own idx R (T j).2.1 (T j).2.2.1 ∈ WA) (hjl : j < fs.length) (hnew : (.inr (ci, fs.set j v) : va_E) = ent z cy σ' τ' o d k) (hne : ∀ i, i ≠ k → ent z cy σ τ o d i = ent z cy σ' τ' o d i) (hdg : decode cc pc = .ok (.putfield idx, 3))
    (kk : ∀ (H1 : Heap) (locs1 : List Loc), WP D cy z σ' τ' o d H1 → va_S (fz z) s.heap H1 locs1 → W p l e Rm s m args below meth c H1 locs1 cells slots Q (F0 m (pc + 3) ls rest)) : W p l e Rm s m args below meth c H locs cells slots Q (F0 m pc ls (v :: .ref (z + k) :: rest)) := by
  obtain ⟨hx, hb, hr, hml, hown, hW, hlocks, hAm⟩ := C
  exact va_put (D := D) (ci := ci) (v := v) (ty := ty) (C := R) (T := T) (N := N) hx hb hW hin ty0 hty hnm hown hAm.1 hP mwl_D hS k (by rw [mwl_at (kd_lt hk), he]) hc j hj (hW _ hl) (fun x h => by rw [hd1] at h; exact h) hfin hd hn hfit hjl hdg (fun H1 locs1 hP1 _ hS1 => kk H1 locs1 (WP.put hP1 hnew hne) hS1)
theorem g_putN (C : Bd p s m args meth c cc nl rt own D cy z) (hP : WP D cy z σ τ o d H) (hS : va_S (fz z) s.heap H locs) {k ci j idx N : Nat} {fs : List Value} {T : u_T} {R host : String} {v : Value} {ty : FieldType} {ty0 : Nat → FieldType} (hk : kd k ≠ 99) (he : ent z cy σ τ o d k = .inr (ci, fs)) (hc : vwCl[ci]? = some (R, T, N)) (hin : ∀ w ∈ u_ws R T N, w ∈ WA) (hty : ∀ k, k < N → parseFieldDescriptor (T k).2.2.1 = some (ty0 k)) (hnm : ∀ a, a < N → ∀ b, b < N → a ≠ b → (T a).2.1 ≠ (T b).2.1) (hj : j < N) (hd1 : (T j).1 = R) (hfin : (T j).2.2.2 = false) (hd : parseFieldDescriptor (T j).2.2.1 = some ty) (hn : narrow ty v = v) (hfit : fits ty v = true)
    (hl : Cond.fieldLinkNest own idx R (T j).2.1 (T j).2.2.1 host ∈ nestW) (hjl : j < fs.length) (hnew : (.inr (ci, fs.set j v) : va_E) = ent z cy σ' τ' o d k) (hne : ∀ i, i ≠ k → ent z cy σ τ o d i = ent z cy σ' τ' o d i) (hdg : decode cc pc = .ok (.putfield idx, 3))
    (kk : ∀ (H1 : Heap) (locs1 : List Loc), WP D cy z σ' τ' o d H1 → va_S (fz z) s.heap H1 locs1 → W p l e Rm s m args below meth c H1 locs1 cells slots Q (F0 m (pc + 3) ls rest)) : W p l e Rm s m args below meth c H locs cells slots Q (F0 m pc ls (v :: .ref (z + k) :: rest)) := by
  obtain ⟨hx, hb, hr, hml, hown, hW, hlocks, hAm⟩ := C
  exact va_putN (D := D) (ci := ci) (v := v) (ty := ty) (C := R) (T := T) (N := N) hx hb hW hin ty0 hty hnm hown hAm.1 hP mwl_D hS k (by rw [mwl_at (kd_lt hk), he]) hc j hj (va_Nw.use rfl (hAm.2.1 _ hl)) (fun x h => by rw [hd1] at h; exact h) hfin hd hn hfit hjl hdg (fun H1 locs1 hP1 _ hS1 => kk H1 locs1 (WP.put hP1 hnew hne) hS1)
/-- arrays of ints: read, written, measured -/
theorem g_iald (C : Bd p s m args meth c cc nl rt own D cy z) (hP : WP D cy z σ τ o d H) {k n : Nat} {f : Nat → Int32} {i : Int32} (hk : kd k ≠ 99) (he : ent z cy σ τ o d k = .inl (cy 0, n, .inl f)) (hin : vp_in i n) (hdg : decode cc pc = .ok (.iaload, 1)) (kk : W p l e Rm s m args below meth c H locs cells slots Q (F0 m (pc + 1) ls (.int (f i.toNatClampNeg) :: rest))) : W p l e Rm s m args below meth c H locs cells slots Q (F0 m pc ls (.int i :: .ref (z + k) :: rest)) := by
  obtain ⟨hx, hb, hr, hml, hown, hW, hlocks, hAm⟩ := C
  exact va_iald hx hb hAm.1 hP k 0 (by rw [mwl_at (kd_lt hk), he]) rfl hin hdg kk
theorem g_cald (C : Bd p s m args meth c cc nl rt own D cy z) (hP : WP D cy z σ τ o d H) {k n : Nat} {f : Nat → Int32} {i : Int32} (hk : kd k ≠ 99) (he : ent z cy σ τ o d k = .inl (cy 1, n, .inl f)) (hin : vp_in i n) (hdg : decode cc pc = .ok (.caload, 1)) (kk : W p l e Rm s m args below meth c H locs cells slots Q (F0 m (pc + 1) ls (.int (f i.toNatClampNeg) :: rest))) : W p l e Rm s m args below meth c H locs cells slots Q (F0 m pc ls (.int i :: .ref (z + k) :: rest)) := by
  obtain ⟨hx, hb, hr, hml, hown, hW, hlocks, hAm⟩ := C
  exact va_cald hx hb hAm.1 hP k 1 (by rw [mwl_at (kd_lt hk), he]) rfl hin hdg kk
theorem g_iast (C : Bd p s m args meth c cc nl rt own D cy z) (hP : WP D cy z σ τ o d H) (hS : va_S (fz z) s.heap H locs) {k n : Nat} {f : Nat → Int32} {i x : Int32} (hk : kd k ≠ 99) (he : ent z cy σ τ o d k = .inl (cy 0, n, .inl f)) (hin : vp_in i n) (hnew : (.inl (cy 0, n, .inl (upd f i.toNatClampNeg x)) : va_E) = ent z cy σ' τ' o d k) (hne : ∀ i, i ≠ k → ent z cy σ τ o d i = ent z cy σ' τ' o d i) (hdg : decode cc pc = .ok (.iastore, 1))
    (kk : ∀ (H1 : Heap) (locs1 : List Loc), WP D cy z σ' τ' o d H1 → va_S (fz z) s.heap H1 locs1 → W p l e Rm s m args below meth c H1 locs1 cells slots Q (F0 m (pc + 1) ls rest)) : W p l e Rm s m args below meth c H locs cells slots Q (F0 m pc ls (.int x :: .int i :: .ref (z + k) :: rest)) := by
  obtain ⟨hx, hb, hr, hml, hown, hW, hlocks, hAm⟩ := C
  exact va_iast hx hb hAm.1 hP mwl_D hS k 0 (by rw [mwl_at (kd_lt hk), he]) rfl hin hdg (fun H1 locs1 hP1 _ hS1 => kk H1 locs1 (WP.put hP1 hnew hne) hS1)
theorem g_cast (C : Bd p s m args meth c cc nl rt own D cy z) (hP : WP D cy z σ τ o d H) (hS : va_S (fz z) s.heap H locs) {k n : Nat} {f : Nat → Int32} {i x : Int32} (hk : kd k ≠ 99) (he : ent z cy σ τ o d k = .inl (cy 1, n, .inl f)) (hin : vp_in i n) (hnew : (.inl (cy 1, n, .inl (upd f i.toNatClampNeg (vp_nar .char x))) : va_E) = ent z cy σ' τ' o d k) (hne : ∀ i, i ≠ k → ent z cy σ τ o d i = ent z cy σ' τ' o d i) (hdg : decode cc pc = .ok (.castore, 1))
    (kk : ∀ (H1 : Heap) (locs1 : List Loc), WP D cy z σ' τ' o d H1 → va_S (fz z) s.heap H1 locs1 → W p l e Rm s m args below meth c H1 locs1 cells slots Q (F0 m (pc + 1) ls rest)) : W p l e Rm s m args below meth c H locs cells slots Q (F0 m pc ls (.int x :: .int i :: .ref (z + k) :: rest)) := by
  obtain ⟨hx, hb, hr, hml, hown, hW, hlocks, hAm⟩ := C
  exact va_cast hx hb hAm.1 hP mwl_D hS k 1 (by rw [mwl_at (kd_lt hk), he]) rfl hin hdg (fun H1 locs1 hP1 _ hS1 => kk H1 locs1 (WP.put hP1 hnew hne) hS1)
theorem g_alen (C : Bd p s m args meth c cc nl rt own D cy z) (hP : WP D cy z σ τ o d H) {k t0 : Nat} {cA : ClassId} {x : vp_A} {ty : FieldType} {v : Int32} (hk : kd k ≠ 99) (he : ent z cy σ τ o d k = .inl (cA, x)) (ht : (tyc cy)[t0]? = some (cA, ty)) (hv : Int32.ofNat x.1 = v) (hdg : decode cc pc = .ok (.arraylength, 1)) (kk : W p l e Rm s m args below meth c H locs cells slots Q (F0 m (pc + 1) ls (.int v :: rest))) : W p l e Rm s m args below meth c H locs cells slots Q (F0 m pc ls (.ref (z + k) :: rest)) := by
  obtain ⟨hx, hb, hr, hml, hown, hW, hlocks, hAm⟩ := C
  exact va_alen hx hb hAm.1 hP k t0 (by rw [mwl_at (kd_lt hk), he]) ht hv hdg kk
/-- the end of a method -/
theorem ret_I (C : Bd p s m args meth c cc nl rt own D cy z) {r v : Int32} {σe τe : Sg} {ty : FieldType} (hP : WP D cy z σe τe o d H) (hS : va_S (fz z) s.heap H locs) (hn : narrow ty (.int v) = .int v) (hrt : rt = some ty) (hv : v = r) (hσ : σe = σ') (hτ : τe = τ') (hdg : decode cc pc = .ok (.ireturn, 1)) :
    W p l e Rm s m args below meth c H locs cells slots (MQ below (PoI D cy z o d r σ' τ') args s cells slots (fz z)) (F0 m pc ls [.int v]) := by
  obtain ⟨hx, hb, hr, hml, hown, hW, hlocks, hAm⟩ := C
  subst hσ
  subst hτ
  exact W.zret (ty := ty) hx hb (by rw [hr, hrt]) hn (fun t ht hW => ⟨⟨v, (), rfl, hv, by show WP D cy z σe τe o d t.heap; rw [ht]; exact hP⟩, hS.F ht⟩) hS.2.2 hdg hlocks
theorem ret_V (C : Bd p s m args meth c cc nl none own D cy z) {σe τe : Sg} (hP : WP D cy z σe τe o d H) (hS : va_S (fz z) s.heap H locs) (hσ : σe = σ') (hτ : τe = τ') (hdg : decode cc pc = .ok (.return_, 1)) :
    W p l e Rm s m args below meth c H locs cells slots (MQ below (PoV D cy z o d σ' τ') args s cells slots (fz z)) (F0 m pc ls []) := by
  obtain ⟨hx, hb, hr, hml, hown, hW, hlocks, hAm⟩ := C
  subst hσ
  subst hτ
  exact W.vret hx hb hr (fun t ht hW => ⟨⟨(), rfl, trivial, by show WP D cy z σe τe o d t.heap; rw [ht]; exact hP⟩, hS.F ht⟩) hS.2.2 hdg hlocks
theorem ret_R (C : Bd p s m args meth c cc nl rt own D cy z) {r v : Nat} {σe τe : Sg} {nm : String} (hP : WP D cy z σe τe o d H) (hS : va_S (fz z) s.heap H locs) (hrt : rt = some (.object nm)) (hv : v = r) (hσ : σe = σ') (hτ : τe = τ') (hdg : decode cc pc = .ok (.areturn, 1)) :
    W p l e Rm s m args below meth c H locs cells slots (MQ below (PoR D cy z o d r σ' τ') args s cells slots (fz z)) (F0 m pc ls [.ref (z + v)]) := by
  obtain ⟨hx, hb, hr, hml, hown, hW, hlocks, hAm⟩ := C
  subst hσ
  subst hτ
  subst hv
  exact W.aret (rt := .object nm) hx hb (by rw [hr, hrt]) (Or.inl ⟨_, rfl⟩) (Or.inr ⟨_, rfl⟩) (fun t ht hW => ⟨⟨(), _, rfl, trivial, rfl, by show WP D cy z σe τe o d t.heap; rw [ht]; exact hP⟩, hS.F ht⟩) hS.2.2 hdg hlocks
/-- calls -/
abbrev yOK (y : MethodName) (n : Nat) : Prop := y.cls ≠ "java/lang/invoke/MethodHandle" ∧ y.cls ≠ "java/lang/invoke/VarHandle" ∧ (parseMethodDescriptor y.desc).map (fun d => d.parameters.length) = some n
abbrev cwVt (y : MethodName) (bc : ByteArray) (nl : Nat) (rt : Option FieldType) (ci n : Nat) : Prop := Cond.instanceMethod y ∈ WA ∧ Cond.selects y.cls y y ∈ WA ∧ Cond.initialized y.cls ∈ WA ∧ Cond.code y bc nl rt ∈ WA ∧ yOK y n ∧ (∃ q : vw_C, vwCl[ci]? = some q ∧ q.1 = y.cls) ∧ ci ≤ 6
abbrev cwSt (y : MethodName) (bc : ByteArray) (nl : Nat) (rt : Option FieldType) (n : Nat) : Prop := Cond.static y ∈ WA ∧ Cond.initialized y.cls ∈ WA ∧ Cond.code y bc nl rt ∈ WA ∧ yOK y n
theorem ent_obj {k ci : Nat} (h : kd k = ci) (h6 : ci ≤ 6) : ∃ fs, ent z cy σ τ o d k = .inr (ci, fs) := by
  have : ci = 0 ∨ ci = 1 ∨ ci = 2 ∨ ci = 3 ∨ ci = 4 ∨ ci = 5 ∨ ci = 6 := by omega
  rcases this with rfl | rfl | rfl | rfl | rfl | rfl | rfl
  · exact ⟨_, ent_0 h⟩
  · exact ⟨_, ent_1 h⟩
  · exact ⟨_, ent_2 h⟩
  · exact ⟨_, ent_3 h⟩
  · exact ⟨_, ent_4 h⟩
  · exact ⟨_, ent_5 h⟩
  · exact ⟨_, ent_6 h⟩
theorem run_V (C : Bd p s m args meth c cc nl rt own D cy z) {y : MethodName} {bc : ByteArray} {nl' : Nat} {rt' : Option FieldType} {rm : Room} {As : List Value} {Qc : Array Value → State → Outcome → State → Prop} {kr ci idx : Nat}
    (hM : Met l y (.code y bc nl' rt' :: WA) rm (Pre D cy z (.ref (z + kr) :: As) σ τ o d) Qc 0 0 (fz z)) (hP : WP D cy z σ τ o d H) (hS : va_S (fz z) s.heap H locs) (cw : cwVt y bc nl' rt' ci As.length) (ml : Cond.methodLink own idx y ∈ WA) (hk : kd kr = ci) (h0 : rm.cells = 0 ∧ rm.slots = 0)
    (hR : rm.frames + 1 ≤ Rm.frames ∧ 8 + (nl' + 11) + rm.locals ≤ Rm.locals) (hst : st = As.reverse ++ .ref (z + kr) :: rest) (hrest : (rest.map fun v => v.category).sum ≤ 8) (hsz : ls.size = nl) (hcs : cells ≤ Rm.cells ∧ slots ≤ Rm.slots) (hdg : decode cc pc = .ok (.invokevirtual idx, 3)) :
    va_Run p l e Rm s m args below meth c H locs cells slots 0 0 (F0 m pc ls st) rest (Qc (Value.ref (z + kr) :: As).toArray) (fz z) := by
  obtain ⟨hx, hb, hr, hml, hown, hW, hlocks, hAm⟩ := C
  obtain ⟨w1, w2, w3, w4, ⟨hy1, hy2, hy3⟩, ⟨q, hq1, hq2⟩, h6⟩ := cw
  obtain ⟨fs, he⟩ := ent_obj (z := z) (cy := cy) (σ := σ) (τ := τ) (o := o) (d := d) hk h6
  have hrecv : ∃ cell : Cell, H[z + kr]? = some cell ∧ cell.vm.isStatics = false ∧ s.vm.findClass y.cls = some cell.cls := by
    rw [← hq2]
    exact va_recv hAm.1 hP (ci := ci) (q0 := kr) hq1 (by rw [mwl_at (kd_lt (by omega)), he])
  exact va_runV (As := As) (rest := rest) ⟨hx, hb, hml, hown, hW⟩ hM (cwV (C := y.cls) As.length hW (wa_app (ws := [.methodLink own idx y, .instanceMethod y, .selects y.cls y y, .initialized y.cls]) (by
    intro w hw
    simp only [List.mem_cons, List.not_mem_nil, or_false] at hw
    rcases hw with rfl | rfl | rfl | rfl <;> assumption) w4) rfl h0.1 h0.2 ⟨rfl, hy1, hy2, hy3⟩ hR)
    ⟨Pre.blind, hrecv, fun U hU hW' => ⟨rfl, by rw [hU]; exact hP, hAm.warm hW' (by rw [hU]; exact hS.2.1)⟩⟩ rfl rfl hsz hst (lv_room hrest) hdg hcs
theorem run_S (C : Bd p s m args meth c cc nl rt own D cy z) {y : MethodName} {bc : ByteArray} {nl' : Nat} {rt' : Option FieldType} {rm : Room} {As : List Value} {Qc : Array Value → State → Outcome → State → Prop} {idx : Nat}
    (hM : Met l y (.code y bc nl' rt' :: WA) rm (Pre D cy z As σ τ o d) Qc 0 0 (fz z)) (hP : WP D cy z σ τ o d H) (hS : va_S (fz z) s.heap H locs) (cw : cwSt y bc nl' rt' As.length) (ml : Cond.methodLink own idx y ∈ WA) (h0 : rm.cells = 0 ∧ rm.slots = 0)
    (hR : rm.frames + 1 ≤ Rm.frames ∧ 8 + (nl' + 11) + rm.locals ≤ Rm.locals) (hst : st = As.reverse ++ rest) (hrest : (rest.map fun v => v.category).sum ≤ 8) (hsz : ls.size = nl) (hcs : cells ≤ Rm.cells ∧ slots ≤ Rm.slots) (hdg : decode cc pc = .ok (.invokestatic idx, 3)) :
    va_Run p l e Rm s m args below meth c H locs cells slots 0 0 (F0 m pc ls st) rest (Qc As.toArray) (fz z) := by
  obtain ⟨hx, hb, hr, hml, hown, hW, hlocks, hAm⟩ := C
  obtain ⟨w1, w3, w4, hy1, hy2, hy3⟩ := cw
  exact va_runS (As := As) (rest := rest) ⟨hx, hb, hml, hown, hW⟩ hM (va_cwS As.length hW (wa_app (ws := [.methodLink own idx y, .static y, .initialized y.cls]) (by
    intro w hw
    simp only [List.mem_cons, List.not_mem_nil, or_false] at hw
    rcases hw with rfl | rfl | rfl <;> assumption) w4) rfl h0.1 h0.2 ⟨hy1, hy2, hy3⟩ hR)
    ⟨Pre.blind, fun U hU hW' => ⟨rfl, by rw [hU]; exact hP, hAm.warm hW' (by rw [hU]; exact hS.2.1)⟩⟩ rfl rfl hsz hst (lv_room hrest) hdg hcs
theorem thn_I {st0 : List Value} {a : Array Value} {r : Int32} (hr : va_Run p l e Rm s m args below meth c H locs cells slots 0 0 (F0 m pc ls st0) rest (PoI D cy z o d r σ' τ' a) (fz z)) (hS : va_S (fz z) s.heap H locs)
    (kk : ∀ (H1 : Heap) (locs1 : List Loc), WP D cy z σ' τ' o d H1 → va_S (fz z) s.heap H1 locs1 → W p l e Rm s m args below meth c H1 locs1 cells slots Q (F0 m (pc + 3) ls (.int r :: rest))) : W p l e Rm s m args below meth c H locs cells slots Q (F0 m pc ls st0) :=
  va_calli hr hS (fun _ _ h => h) (fun _ h => h) (fun r1 u t H1 locs1 ht hvm hpost hB hz hk1 hS1 => by
    subst hpost
    rw [ht] at hB
    exact kk H1 locs1 hB hS1)
theorem thn_V {st0 : List Value} {a : Array Value} (hr : va_Run p l e Rm s m args below meth c H locs cells slots 0 0 (F0 m pc ls st0) rest (PoV D cy z o d σ' τ' a) (fz z)) (hS : va_S (fz z) s.heap H locs)
    (kk : ∀ (H1 : Heap) (locs1 : List Loc), WP D cy z σ' τ' o d H1 → va_S (fz z) s.heap H1 locs1 → W p l e Rm s m args below meth c H1 locs1 cells slots Q (F0 m (pc + 3) ls rest)) : W p l e Rm s m args below meth c H locs cells slots Q (F0 m pc ls st0) :=
  va_callv hr hS (fun _ _ h => h) (fun _ h => h) (fun u t H1 locs1 ht hvm hpost hB hz hk1 hS1 => by
    rw [ht] at hB
    exact kk H1 locs1 hB hS1)
theorem thn_R {st0 : List Value} {a : Array Value} {r : Nat} (hr : va_Run p l e Rm s m args below meth c H locs cells slots 0 0 (F0 m pc ls st0) rest (PoR D cy z o d r σ' τ' a) (fz z)) (hS : va_S (fz z) s.heap H locs)
    (kk : ∀ (H1 : Heap) (locs1 : List Loc), WP D cy z σ' τ' o d H1 → va_S (fz z) s.heap H1 locs1 → W p l e Rm s m args below meth c H1 locs1 cells slots Q (F0 m (pc + 3) ls (.ref (z + r) :: rest))) : W p l e Rm s m args below meth c H locs cells slots Q (F0 m pc ls st0) :=
  va_callr hr hS (fun _ _ h => h) (fun _ h => h) (fun u ra t H1 locs1 ht hvm hpost hB hz hk1 hS1 => by
    obtain ⟨rfl, hB⟩ := hB
    rw [ht] at hB
    exact kk H1 locs1 hB hS1)
end Rows
end
section
abbrev ab (x : Int32) : Int32 := if 0 ≤ x then x else 0 - x
theorem kd6_95 {k : Nat} (h : kd k = 6) : k = 95 := by
  have key : ∀ k, k < 103 → kd k = 6 → k = 95 := by decide +kernel
  exact key k (kd_lt (by rw [h]; decide)) h
theorem kd_inj10 {k i : Nat} {c : Nat} (h : kd k = c) (hc : c = 6 ∨ (10 ≤ c ∧ c ≤ 16)) (hi : kd i = c) : i = k := by
  have h1 : k < 103 := kd_lt (by omega)
  have h2 : i < 103 := kd_lt (by omega)
  have key : ∀ a, a < 103 → (kd a = 6 ∨ (10 ≤ kd a ∧ kd a ≤ 16)) → (kd a = 6 → a = 95) ∧ (10 ≤ kd a → a = kd a + 86) := by decide +kernel
  have ka := key k h1 (by rw [h]; exact hc)
  have kb := key i h2 (by rw [hi]; exact hc)
  rw [h] at ka
  rw [hi] at kb
  rcases hc with e | ⟨e, -⟩
  · rw [ka.1 e, kb.1 e]
  · rw [ka.2 e, kb.2 e]
theorem ent_t0 {z : Nat} {cy : Nat → ClassId} {σ τ : Sg} {o : Int64} {d : UInt64} {k i f : Nat} {v : Int32} (hk : kd k = 6) (hi : i ≠ k) : ent z cy σ τ o d i = ent z cy σ (up τ 0 f v) o d i := by
  have h6 : kd i ≠ 6 := fun h => hi (kd_inj10 hk (Or.inl rfl) h)
  unfold ent
  split <;> first | (exact absurd (by assumption) h6) | rfl | (rw [up_ne (by decide)])
theorem ent_t {z : Nat} {cy : Nat → ClassId} {σ τ : Sg} {o : Int64} {d : UInt64} {k i f j c : Nat} {v : Int32} (hk : kd k = c) (hc : (c = 10 ∧ j = 1) ∨ (c = 11 ∧ j = 2) ∨ (c = 12 ∧ j = 3) ∨ (c = 13 ∧ j = 4) ∨ (c = 14 ∧ j = 5)) (hi : i ≠ k) : ent z cy σ τ o d i = ent z cy σ (up τ j f v) o d i := by
  have h6 : kd i ≠ c := fun h => hi (kd_inj10 hk (by omega) h)
  rcases hc with ⟨rfl, rfl⟩ | ⟨rfl, rfl⟩ | ⟨rfl, rfl⟩ | ⟨rfl, rfl⟩ | ⟨rfl, rfl⟩ <;> unfold ent <;> split <;> first | (exact absurd (by assumption) h6) | rfl | (rw [up_ne (by decide)]) | (simp only [up_ne (show (0 : Nat) ≠ 1 by decide), up_ne (show (0 : Nat) ≠ 2 by decide), up_ne (show (0 : Nat) ≠ 3 by decide), up_ne (show (0 : Nat) ≠ 4 by decide), up_ne (show (0 : Nat) ≠ 5 by decide)])
theorem tab_out3 {x : Int32} (h0 : ¬ x.toInt = 0) (h1 : ¬ x.toInt = 1) (h2 : ¬ x.toInt = 2) : x.toInt < 0 ∨ 2 < x.toInt := by omega
theorem tab_out3b {x : Int32} (h0 : ¬ x.toInt = 1) (h1 : ¬ x.toInt = 2) (h2 : ¬ x.toInt = 3) : x.toInt < 1 ∨ 3 < x.toInt := by omega
theorem tab_out6 {x : Int32} (h0 : ¬ x.toInt = 0) (h1 : ¬ x.toInt = 1) (h2 : ¬ x.toInt = 2) (h3 : ¬ x.toInt = 3) (h4 : ¬ x.toInt = 4) (h5 : ¬ x.toInt = 5) : x.toInt < 0 ∨ 5 < x.toInt := by omega
theorem inWX0 : ∀ w ∈ u_ws RX0 TX0 6, w ∈ WA := by
  show ∀ w ∈ [u_lay RX0 TX0 0, u_lay RX0 TX0 1, u_lay RX0 TX0 2, u_lay RX0 TX0 3, u_lay RX0 TX0 4, u_lay RX0 TX0 5], w ∈ WA
  exact (List.forall_mem_cons.mpr ⟨(mA1 (i := 112) rfl rfl), (List.forall_mem_cons.mpr ⟨(mA1 (i := 114) rfl rfl), (List.forall_mem_cons.mpr ⟨(mA1 (i := 116) rfl rfl), (List.forall_mem_cons.mpr ⟨(mA1 (i := 118) rfl rfl), (List.forall_mem_cons.mpr ⟨(mA1 (i := 120) rfl rfl), (List.forall_mem_cons.mpr ⟨(mA1 (i := 122) rfl rfl), (fun _ h => absurd h List.not_mem_nil)⟩)⟩)⟩)⟩)⟩)⟩)
theorem inWX1 : ∀ w ∈ u_ws RX1 TX1 3, w ∈ WA := by
  show ∀ w ∈ [u_lay RX1 TX1 0, u_lay RX1 TX1 1, u_lay RX1 TX1 2], w ∈ WA
  exact (List.forall_mem_cons.mpr ⟨(mA1 (i := 46) rfl rfl), (List.forall_mem_cons.mpr ⟨(mA1 (i := 48) rfl rfl), (List.forall_mem_cons.mpr ⟨(mA1 (i := 50) rfl rfl), (fun _ h => absurd h List.not_mem_nil)⟩)⟩)⟩)
theorem inWX2 : ∀ w ∈ u_ws RX2 TX2 2, w ∈ WA := by
  show ∀ w ∈ [u_lay RX2 TX2 0, u_lay RX2 TX2 1], w ∈ WA
  exact (List.forall_mem_cons.mpr ⟨(mA1 (i := 162) rfl rfl), (List.forall_mem_cons.mpr ⟨(mA1 (i := 164) rfl rfl), (fun _ h => absurd h List.not_mem_nil)⟩)⟩)
theorem inWX3 : ∀ w ∈ u_ws RX3 TX3 6, w ∈ WA := by
  show ∀ w ∈ [u_lay RX3 TX3 0, u_lay RX3 TX3 1, u_lay RX3 TX3 2, u_lay RX3 TX3 3, u_lay RX3 TX3 4, u_lay RX3 TX3 5], w ∈ WA
  exact (List.forall_mem_cons.mpr ⟨(mA1 (i := 140) rfl rfl), (List.forall_mem_cons.mpr ⟨(mA1 (i := 142) rfl rfl), (List.forall_mem_cons.mpr ⟨(mA1 (i := 144) rfl rfl), (List.forall_mem_cons.mpr ⟨(mA1 (i := 146) rfl rfl), (List.forall_mem_cons.mpr ⟨(mA1 (i := 148) rfl rfl), (List.forall_mem_cons.mpr ⟨(mA1 (i := 150) rfl rfl), (fun _ h => absurd h List.not_mem_nil)⟩)⟩)⟩)⟩)⟩)⟩)
theorem inWX4 : ∀ w ∈ u_ws RX4 TX4 12, w ∈ WA := by
  show ∀ w ∈ [u_lay RX4 TX4 0, u_lay RX4 TX4 1, u_lay RX4 TX4 2, u_lay RX4 TX4 3, u_lay RX4 TX4 4, u_lay RX4 TX4 5, u_lay RX4 TX4 6, u_lay RX4 TX4 7, u_lay RX4 TX4 8, u_lay RX4 TX4 9, u_lay RX4 TX4 10, u_lay RX4 TX4 11], w ∈ WA
  exact (List.forall_mem_cons.mpr ⟨(mA1 (i := 79) rfl rfl), (List.forall_mem_cons.mpr ⟨(mA1 (i := 81) rfl rfl), (List.forall_mem_cons.mpr ⟨(mA1 (i := 83) rfl rfl), (List.forall_mem_cons.mpr ⟨(mA1 (i := 85) rfl rfl), (List.forall_mem_cons.mpr ⟨(mA1 (i := 87) rfl rfl), (List.forall_mem_cons.mpr ⟨(mA1 (i := 89) rfl rfl), (List.forall_mem_cons.mpr ⟨(mA1 (i := 91) rfl rfl), (List.forall_mem_cons.mpr ⟨(mA1 (i := 93) rfl rfl), (List.forall_mem_cons.mpr ⟨(mA1 (i := 95) rfl rfl), (List.forall_mem_cons.mpr ⟨(mA1 (i := 97) rfl rfl), (List.forall_mem_cons.mpr ⟨(mA1 (i := 99) rfl rfl), (List.forall_mem_cons.mpr ⟨(mA1 (i := 101) rfl rfl), (fun _ h => absurd h List.not_mem_nil)⟩)⟩)⟩)⟩)⟩)⟩)⟩)⟩)⟩)⟩)⟩)⟩)
theorem inWX5 : ∀ w ∈ u_ws RX5 TX5 6, w ∈ WA := by
  show ∀ w ∈ [u_lay RX5 TX5 0, u_lay RX5 TX5 1, u_lay RX5 TX5 2, u_lay RX5 TX5 3, u_lay RX5 TX5 4, u_lay RX5 TX5 5], w ∈ WA
  exact (List.forall_mem_cons.mpr ⟨(mA1 (i := 174) rfl rfl), (List.forall_mem_cons.mpr ⟨(mA1 (i := 176) rfl rfl), (List.forall_mem_cons.mpr ⟨(mA1 (i := 178) rfl rfl), (List.forall_mem_cons.mpr ⟨(mA1 (i := 180) rfl rfl), (List.forall_mem_cons.mpr ⟨(mA1 (i := 182) rfl rfl), (List.forall_mem_cons.mpr ⟨(mA1 (i := 184) rfl rfl), (fun _ h => absurd h List.not_mem_nil)⟩)⟩)⟩)⟩)⟩)⟩)
theorem inWX6 : ∀ w ∈ u_ws RX6 TX6 12, w ∈ WA := by
  show ∀ w ∈ [u_lay RX6 TX6 0, u_lay RX6 TX6 1, u_lay RX6 TX6 2, u_lay RX6 TX6 3, u_lay RX6 TX6 4, u_lay RX6 TX6 5, u_lay RX6 TX6 6, u_lay RX6 TX6 7, u_lay RX6 TX6 8, u_lay RX6 TX6 9, u_lay RX6 TX6 10, u_lay RX6 TX6 11], w ∈ WA
  exact (List.forall_mem_cons.mpr ⟨(mA4 (i := 15) rfl rfl), (List.forall_mem_cons.mpr ⟨(mA4 (i := 17) rfl rfl), (List.forall_mem_cons.mpr ⟨(mA4 (i := 19) rfl rfl), (List.forall_mem_cons.mpr ⟨(mA4 (i := 21) rfl rfl), (List.forall_mem_cons.mpr ⟨(mA4 (i := 23) rfl rfl), (List.forall_mem_cons.mpr ⟨(mA4 (i := 25) rfl rfl), (List.forall_mem_cons.mpr ⟨(mA4 (i := 27) rfl rfl), (List.forall_mem_cons.mpr ⟨(mA4 (i := 29) rfl rfl), (List.forall_mem_cons.mpr ⟨(mA4 (i := 31) rfl rfl), (List.forall_mem_cons.mpr ⟨(mA4 (i := 33) rfl rfl), (List.forall_mem_cons.mpr ⟨(mA4 (i := 35) rfl rfl), (List.forall_mem_cons.mpr ⟨(mA4 (i := 37) rfl rfl), (fun _ h => absurd h List.not_mem_nil)⟩)⟩)⟩)⟩)⟩)⟩)⟩)⟩)⟩)⟩)⟩)⟩)
theorem kd0_1 {k : Nat} (h : kd k = 0) : kd (k + 1) = 4 := by
  have key : ∀ k, k < 103 → kd k = 0 → kd (k + 1) = 4 := by decide +kernel
  exact key k (kd_lt (by rw [h]; decide)) h
theorem kd0_4 {k : Nat} (h : kd k = 0) : kd (k + 4) = 4 := by
  have key : ∀ k, k < 103 → kd k = 0 → kd (k + 4) = 4 := by decide +kernel
  exact key k (kd_lt (by rw [h]; decide)) h
theorem kd0_7 {k : Nat} (h : kd k = 0) : kd (k + 7) = 4 := by
  have key : ∀ k, k < 103 → kd k = 0 → kd (k + 7) = 4 := by decide +kernel
  exact key k (kd_lt (by rw [h]; decide)) h
theorem kd0_10 {k : Nat} (h : kd k = 0) : kd (k + 10) = 4 := by
  have key : ∀ k, k < 103 → kd k = 0 → kd (k + 10) = 4 := by decide +kernel
  exact key k (kd_lt (by rw [h]; decide)) h
theorem kd1_1 {k : Nat} (h : kd k = 1) : kd (k + 1) = 7 := by
  have key : ∀ k, k < 103 → kd k = 1 → kd (k + 1) = 7 := by decide +kernel
  exact key k (kd_lt (by rw [h]; decide)) h
theorem kd2_1 {k : Nat} (h : kd k = 2) : kd (k + 1) = 8 := by
  have key : ∀ k, k < 103 → kd k = 2 → kd (k + 1) = 8 := by decide +kernel
  exact key k (kd_lt (by rw [h]; decide)) h
theorem kd3_1 {k : Nat} (h : kd k = 3) : kd (k + 1) = 0 := by
  have key : ∀ k, k < 103 → kd k = 3 → kd (k + 1) = 0 := by decide +kernel
  exact key k (kd_lt (by rw [h]; decide)) h
theorem kd3_14 {k : Nat} (h : kd k = 3) : kd (k + 14) = 0 := by
  have key : ∀ k, k < 103 → kd k = 3 → kd (k + 14) = 0 := by decide +kernel
  exact key k (kd_lt (by rw [h]; decide)) h
theorem kd3_27 {k : Nat} (h : kd k = 3) : kd (k + 27) = 0 := by
  have key : ∀ k, k < 103 → kd k = 3 → kd (k + 27) = 0 := by decide +kernel
  exact key k (kd_lt (by rw [h]; decide)) h
theorem kd3_40 {k : Nat} (h : kd k = 3) : kd (k + 40) = 0 := by
  have key : ∀ k, k < 103 → kd k = 3 → kd (k + 40) = 0 := by decide +kernel
  exact key k (kd_lt (by rw [h]; decide)) h
theorem kd4_1 {k : Nat} (h : kd k = 4) : kd (k + 1) = 1 := by
  have key : ∀ k, k < 103 → kd k = 4 → kd (k + 1) = 1 := by decide +kernel
  exact key k (kd_lt (by rw [h]; decide)) h
theorem kd5_1 {k : Nat} (h : kd k = 5) : kd (k + 1) = 0 := by
  have key : ∀ k, k < 103 → kd k = 5 → kd (k + 1) = 0 := by decide +kernel
  exact key k (kd_lt (by rw [h]; decide)) h
theorem kd5_14 {k : Nat} (h : kd k = 5) : kd (k + 14) = 0 := by
  have key : ∀ k, k < 103 → kd k = 5 → kd (k + 14) = 0 := by decide +kernel
  exact key k (kd_lt (by rw [h]; decide)) h
theorem kd5_27 {k : Nat} (h : kd k = 5) : kd (k + 27) = 0 := by
  have key : ∀ k, k < 103 → kd k = 5 → kd (k + 27) = 0 := by decide +kernel
  exact key k (kd_lt (by rw [h]; decide)) h
theorem kd5_40 {k : Nat} (h : kd k = 5) : kd (k + 40) = 3 := by
  have key : ∀ k, k < 103 → kd k = 5 → kd (k + 40) = 3 := by decide +kernel
  exact key k (kd_lt (by rw [h]; decide)) h
theorem kd5_93 {k : Nat} (h : kd k = 5) : kd (k + 93) = 2 := by
  have key : ∀ k, k < 103 → kd k = 5 → kd (k + 93) = 2 := by decide +kernel
  exact key k (kd_lt (by rw [h]; decide)) h
theorem kd6_1 {k : Nat} (h : kd k = 6) : kd (k + 1) = 10 := by
  have key : ∀ k, k < 103 → kd k = 6 → kd (k + 1) = 10 := by decide +kernel
  exact key k (kd_lt (by rw [h]; decide)) h
theorem kd6_2 {k : Nat} (h : kd k = 6) : kd (k + 2) = 11 := by
  have key : ∀ k, k < 103 → kd k = 6 → kd (k + 2) = 11 := by decide +kernel
  exact key k (kd_lt (by rw [h]; decide)) h
theorem kd6_3 {k : Nat} (h : kd k = 6) : kd (k + 3) = 12 := by
  have key : ∀ k, k < 103 → kd k = 6 → kd (k + 3) = 12 := by decide +kernel
  exact key k (kd_lt (by rw [h]; decide)) h
theorem kd6_4 {k : Nat} (h : kd k = 6) : kd (k + 4) = 13 := by
  have key : ∀ k, k < 103 → kd k = 6 → kd (k + 4) = 13 := by decide +kernel
  exact key k (kd_lt (by rw [h]; decide)) h
theorem kd6_5 {k : Nat} (h : kd k = 6) : kd (k + 5) = 14 := by
  have key : ∀ k, k < 103 → kd k = 6 → kd (k + 5) = 14 := by decide +kernel
  exact key k (kd_lt (by rw [h]; decide)) h
section Fields
variable {p : Program} {l : Launch} {e : Env} {Rm : Room} {s : State} {m : MethodId} {args : Array Value} {below : List Frame} {meth : Method} {c : Code} {H : Heap} {locs : List Loc} {cells slots : Nat} {Q : State → Prop} {cc : ByteArray} {nl : Nat} {rt : Option FieldType} {D : va_G} {cy : Nat → ClassId} {z : Nat} {σ τ : Sg} {o : Int64} {d : UInt64} {pc : Nat} {ls : Array Slot} {rest : List Value}
theorem gf_X0_12 (C : Bd p s m args meth c cc nl rt RX0 D cy z) (hP : WP D cy z σ τ o d H) {k : Nat} (hk : kd k = 0) (hdg : decode cc pc = .ok (.getfield 12, 3)) (kk : W p l e Rm s m args below meth c H locs cells slots Q (F0 m (pc + 3) ls (.ref (z + (k + 1)) :: rest))) : W p l e Rm s m args below meth c H locs cells slots Q (F0 m pc ls (.ref (z + k) :: rest)) :=
  g_get C hP (ci := 0) (j := 0) (T := TX0) (R := RX0) (N := 6) (by rw [hk]; decide) (ent_0 hk) rfl inWX0 (by decide) rfl (mA1 (i := 104) rfl rfl) rfl hdg kk
theorem gf_X0_18 (C : Bd p s m args meth c cc nl rt RX0 D cy z) (hP : WP D cy z σ τ o d H) {k : Nat} (hk : kd k = 0) (hdg : decode cc pc = .ok (.getfield 18, 3)) (kk : W p l e Rm s m args below meth c H locs cells slots Q (F0 m (pc + 3) ls (.ref (z + (k + 4)) :: rest))) : W p l e Rm s m args below meth c H locs cells slots Q (F0 m pc ls (.ref (z + k) :: rest)) :=
  g_get C hP (ci := 0) (j := 1) (T := TX0) (R := RX0) (N := 6) (by rw [hk]; decide) (ent_0 hk) rfl inWX0 (by decide) rfl (mA1 (i := 105) rfl rfl) rfl hdg kk
theorem gf_X0_21 (C : Bd p s m args meth c cc nl rt RX0 D cy z) (hP : WP D cy z σ τ o d H) {k : Nat} (hk : kd k = 0) (hdg : decode cc pc = .ok (.getfield 21, 3)) (kk : W p l e Rm s m args below meth c H locs cells slots Q (F0 m (pc + 3) ls (.ref (z + (k + 7)) :: rest))) : W p l e Rm s m args below meth c H locs cells slots Q (F0 m pc ls (.ref (z + k) :: rest)) :=
  g_get C hP (ci := 0) (j := 2) (T := TX0) (R := RX0) (N := 6) (by rw [hk]; decide) (ent_0 hk) rfl inWX0 (by decide) rfl (mA1 (i := 106) rfl rfl) rfl hdg kk
theorem gf_X0_24 (C : Bd p s m args meth c cc nl rt RX0 D cy z) (hP : WP D cy z σ τ o d H) {k : Nat} (hk : kd k = 0) (hdg : decode cc pc = .ok (.getfield 24, 3)) (kk : W p l e Rm s m args below meth c H locs cells slots Q (F0 m (pc + 3) ls (.ref (z + (k + 10)) :: rest))) : W p l e Rm s m args below meth c H locs cells slots Q (F0 m pc ls (.ref (z + k) :: rest)) :=
  g_get C hP (ci := 0) (j := 3) (T := TX0) (R := RX0) (N := 6) (by rw [hk]; decide) (ent_0 hk) rfl inWX0 (by decide) rfl (mA1 (i := 107) rfl rfl) rfl hdg kk
theorem gf_X0_27 (C : Bd p s m args meth c cc nl rt RX0 D cy z) (hP : WP D cy z σ τ o d H) {k : Nat} (hk : kd k = 0) (hdg : decode cc pc = .ok (.getfield 27, 3)) (kk : W p l e Rm s m args below meth c H locs cells slots Q (F0 m (pc + 3) ls (.int (σ k 4) :: rest))) : W p l e Rm s m args below meth c H locs cells slots Q (F0 m pc ls (.ref (z + k) :: rest)) :=
  g_get C hP (ci := 0) (j := 4) (T := TX0) (R := RX0) (N := 6) (by rw [hk]; decide) (ent_0 hk) rfl inWX0 (by decide) rfl (mA1 (i := 108) rfl rfl) rfl hdg kk
theorem pf_X0_27 (C : Bd p s m args meth c cc nl rt RX0 D cy z) (hP : WP D cy z σ τ o d H) (hS : va_S (fz z) s.heap H locs) {k : Nat} {v : Int32} (hk : kd k = 0) (hdg : decode cc pc = .ok (.putfield 27, 3)) (kk : ∀ (H1 : Heap) (locs1 : List Loc), WP D cy z (up σ k 4 v) τ o d H1 → va_S (fz z) s.heap H1 locs1 → W p l e Rm s m args below meth c H1 locs1 cells slots Q (F0 m (pc + 3) ls rest)) : W p l e Rm s m args below meth c H locs cells slots Q (F0 m pc ls (.int v :: .ref (z + k) :: rest)) :=
  g_put C hP hS (σ' := (up σ k 4 v)) (τ' := τ) (ci := 0) (j := 4) (T := TX0) (R := RX0) (N := 6) (ty := .int) (by rw [hk]; decide) (ent_0 hk) rfl inWX0 tyX0_ok nmX0 (by decide) rfl rfl (by decide +kernel) rfl rfl (mA1 (i := 108) rfl rfl) (Nat.le_of_ble_eq_true rfl) (by rw [ent_0 hk]; simp [up]) (fun i hi => (ent_up_ne hi).symm) hdg kk
theorem gf_X0_31 (C : Bd p s m args meth c cc nl rt RX0 D cy z) (hP : WP D cy z σ τ o d H) {k : Nat} (hk : kd k = 0) (hdg : decode cc pc = .ok (.getfield 31, 3)) (kk : W p l e Rm s m args below meth c H locs cells slots Q (F0 m (pc + 3) ls (.int (σ k 5) :: rest))) : W p l e Rm s m args below meth c H locs cells slots Q (F0 m pc ls (.ref (z + k) :: rest)) :=
  g_get C hP (ci := 0) (j := 5) (T := TX0) (R := RX0) (N := 6) (by rw [hk]; decide) (ent_0 hk) rfl inWX0 (by decide) rfl (mA1 (i := 110) rfl rfl) rfl hdg kk
theorem pf_X0_31 (C : Bd p s m args meth c cc nl rt RX0 D cy z) (hP : WP D cy z σ τ o d H) (hS : va_S (fz z) s.heap H locs) {k : Nat} {v : Int32} (hk : kd k = 0) (hdg : decode cc pc = .ok (.putfield 31, 3)) (kk : ∀ (H1 : Heap) (locs1 : List Loc), WP D cy z (up σ k 5 v) τ o d H1 → va_S (fz z) s.heap H1 locs1 → W p l e Rm s m args below meth c H1 locs1 cells slots Q (F0 m (pc + 3) ls rest)) : W p l e Rm s m args below meth c H locs cells slots Q (F0 m pc ls (.int v :: .ref (z + k) :: rest)) :=
  g_put C hP hS (σ' := (up σ k 5 v)) (τ' := τ) (ci := 0) (j := 5) (T := TX0) (R := RX0) (N := 6) (ty := .int) (by rw [hk]; decide) (ent_0 hk) rfl inWX0 tyX0_ok nmX0 (by decide) rfl rfl (by decide +kernel) rfl rfl (mA1 (i := 110) rfl rfl) (Nat.le_of_ble_eq_true rfl) (by rw [ent_0 hk]; simp [up]) (fun i hi => (ent_up_ne hi).symm) hdg kk
theorem gf_X0_34 (C : Bd p s m args meth c cc nl rt RX0 D cy z) (hP : WP D cy z σ τ o d H) {k : Nat} (hk : kd k = 4) (hdg : decode cc pc = .ok (.getfield 34, 3)) (kk : W p l e Rm s m args below meth c H locs cells slots Q (F0 m (pc + 3) ls (.int (σ k 2) :: rest))) : W p l e Rm s m args below meth c H locs cells slots Q (F0 m pc ls (.ref (z + k) :: rest)) :=
  g_getN C hP (ci := 4) (j := 2) (T := TX4) (R := RX4) (N := 12) (host := "QuadSnail") (by rw [hk]; decide) (ent_4 hk) rfl inWX4 (by decide) rfl (by decide +kernel) rfl hdg kk
theorem gf_X1_11 (C : Bd p s m args meth c cc nl rt RX1 D cy z) (hP : WP D cy z σ τ o d H) {k : Nat} (hk : kd k = 1) (hdg : decode cc pc = .ok (.getfield 11, 3)) (kk : W p l e Rm s m args below meth c H locs cells slots Q (F0 m (pc + 3) ls (.ref (z + (k + 1)) :: rest))) : W p l e Rm s m args below meth c H locs cells slots Q (F0 m pc ls (.ref (z + k) :: rest)) :=
  g_get C hP (ci := 1) (j := 0) (T := TX1) (R := RX1) (N := 3) (by rw [hk]; decide) (ent_1 hk) rfl inWX1 (by decide) rfl (mA1 (i := 41) rfl rfl) rfl hdg kk
theorem gf_X1_15 (C : Bd p s m args meth c cc nl rt RX1 D cy z) (hP : WP D cy z σ τ o d H) {k : Nat} (hk : kd k = 1) (hdg : decode cc pc = .ok (.getfield 15, 3)) (kk : W p l e Rm s m args below meth c H locs cells slots Q (F0 m (pc + 3) ls (.int (σ k 2) :: rest))) : W p l e Rm s m args below meth c H locs cells slots Q (F0 m pc ls (.ref (z + k) :: rest)) :=
  g_get C hP (ci := 1) (j := 2) (T := TX1) (R := RX1) (N := 3) (by rw [hk]; decide) (ent_1 hk) rfl inWX1 (by decide) rfl (mA1 (i := 43) rfl rfl) rfl hdg kk
theorem pf_X1_15 (C : Bd p s m args meth c cc nl rt RX1 D cy z) (hP : WP D cy z σ τ o d H) (hS : va_S (fz z) s.heap H locs) {k : Nat} {v : Int32} (hk : kd k = 1) (hdg : decode cc pc = .ok (.putfield 15, 3)) (kk : ∀ (H1 : Heap) (locs1 : List Loc), WP D cy z (up σ k 2 v) τ o d H1 → va_S (fz z) s.heap H1 locs1 → W p l e Rm s m args below meth c H1 locs1 cells slots Q (F0 m (pc + 3) ls rest)) : W p l e Rm s m args below meth c H locs cells slots Q (F0 m pc ls (.int v :: .ref (z + k) :: rest)) :=
  g_put C hP hS (σ' := (up σ k 2 v)) (τ' := τ) (ci := 1) (j := 2) (T := TX1) (R := RX1) (N := 3) (ty := .int) (by rw [hk]; decide) (ent_1 hk) rfl inWX1 tyX1_ok nmX1 (by decide) rfl rfl (by decide +kernel) rfl rfl (mA1 (i := 43) rfl rfl) (Nat.le_of_ble_eq_true rfl) (by rw [ent_1 hk]; simp [up]) (fun i hi => (ent_up_ne hi).symm) hdg kk
theorem gf_X1_19 (C : Bd p s m args meth c cc nl rt RX1 D cy z) (hP : WP D cy z σ τ o d H) {k : Nat} (hk : kd k = 1) (hdg : decode cc pc = .ok (.getfield 19, 3)) (kk : W p l e Rm s m args below meth c H locs cells slots Q (F0 m (pc + 3) ls (.int (σ k 1) :: rest))) : W p l e Rm s m args below meth c H locs cells slots Q (F0 m pc ls (.ref (z + k) :: rest)) :=
  g_get C hP (ci := 1) (j := 1) (T := TX1) (R := RX1) (N := 3) (by rw [hk]; decide) (ent_1 hk) rfl inWX1 (by decide) rfl (mA1 (i := 42) rfl rfl) rfl hdg kk
theorem pf_X1_19 (C : Bd p s m args meth c cc nl rt RX1 D cy z) (hP : WP D cy z σ τ o d H) (hS : va_S (fz z) s.heap H locs) {k : Nat} {v : Int32} (hk : kd k = 1) (hdg : decode cc pc = .ok (.putfield 19, 3)) (kk : ∀ (H1 : Heap) (locs1 : List Loc), WP D cy z (up σ k 1 v) τ o d H1 → va_S (fz z) s.heap H1 locs1 → W p l e Rm s m args below meth c H1 locs1 cells slots Q (F0 m (pc + 3) ls rest)) : W p l e Rm s m args below meth c H locs cells slots Q (F0 m pc ls (.int v :: .ref (z + k) :: rest)) :=
  g_put C hP hS (σ' := (up σ k 1 v)) (τ' := τ) (ci := 1) (j := 1) (T := TX1) (R := RX1) (N := 3) (ty := .int) (by rw [hk]; decide) (ent_1 hk) rfl inWX1 tyX1_ok nmX1 (by decide) rfl rfl (by decide +kernel) rfl rfl (mA1 (i := 42) rfl rfl) (Nat.le_of_ble_eq_true rfl) (by rw [ent_1 hk]; simp [up]) (fun i hi => (ent_up_ne hi).symm) hdg kk
theorem gf_X2_9 (C : Bd p s m args meth c cc nl rt RX2 D cy z) (hP : WP D cy z σ τ o d H) {k : Nat} (hk : kd k = 2) (hdg : decode cc pc = .ok (.getfield 9, 3)) (kk : W p l e Rm s m args below meth c H locs cells slots Q (F0 m (pc + 3) ls (.ref (z + (k + 1)) :: rest))) : W p l e Rm s m args below meth c H locs cells slots Q (F0 m pc ls (.ref (z + k) :: rest)) :=
  g_get C hP (ci := 2) (j := 0) (T := TX2) (R := RX2) (N := 2) (by rw [hk]; decide) (ent_2 hk) rfl inWX2 (by decide) rfl (mA1 (i := 159) rfl rfl) rfl hdg kk
theorem gf_X2_15 (C : Bd p s m args meth c cc nl rt RX2 D cy z) (hP : WP D cy z σ τ o d H) {k : Nat} (hk : kd k = 2) (hdg : decode cc pc = .ok (.getfield 15, 3)) (kk : W p l e Rm s m args below meth c H locs cells slots Q (F0 m (pc + 3) ls (.int (σ k 1) :: rest))) : W p l e Rm s m args below meth c H locs cells slots Q (F0 m pc ls (.ref (z + k) :: rest)) :=
  g_get C hP (ci := 2) (j := 1) (T := TX2) (R := RX2) (N := 2) (by rw [hk]; decide) (ent_2 hk) rfl inWX2 (by decide) rfl (mA1 (i := 160) rfl rfl) rfl hdg kk
theorem pf_X2_15 (C : Bd p s m args meth c cc nl rt RX2 D cy z) (hP : WP D cy z σ τ o d H) (hS : va_S (fz z) s.heap H locs) {k : Nat} {v : Int32} (hk : kd k = 2) (hdg : decode cc pc = .ok (.putfield 15, 3)) (kk : ∀ (H1 : Heap) (locs1 : List Loc), WP D cy z (up σ k 1 v) τ o d H1 → va_S (fz z) s.heap H1 locs1 → W p l e Rm s m args below meth c H1 locs1 cells slots Q (F0 m (pc + 3) ls rest)) : W p l e Rm s m args below meth c H locs cells slots Q (F0 m pc ls (.int v :: .ref (z + k) :: rest)) :=
  g_put C hP hS (σ' := (up σ k 1 v)) (τ' := τ) (ci := 2) (j := 1) (T := TX2) (R := RX2) (N := 2) (ty := .int) (by rw [hk]; decide) (ent_2 hk) rfl inWX2 tyX2_ok nmX2 (by decide) rfl rfl (by decide +kernel) rfl rfl (mA1 (i := 160) rfl rfl) (Nat.le_of_ble_eq_true rfl) (by rw [ent_2 hk]; simp [up]) (fun i hi => (ent_up_ne hi).symm) hdg kk
theorem gf_X3_12 (C : Bd p s m args meth c cc nl rt RX3 D cy z) (hP : WP D cy z σ τ o d H) {k : Nat} (hk : kd k = 3) (hdg : decode cc pc = .ok (.getfield 12, 3)) (kk : W p l e Rm s m args below meth c H locs cells slots Q (F0 m (pc + 3) ls (.ref (z + (k + 1)) :: rest))) : W p l e Rm s m args below meth c H locs cells slots Q (F0 m pc ls (.ref (z + k) :: rest)) :=
  g_get C hP (ci := 3) (j := 0) (T := TX3) (R := RX3) (N := 6) (by rw [hk]; decide) (ent_3 hk) rfl inWX3 (by decide) rfl (mA1 (i := 133) rfl rfl) rfl hdg kk
theorem gf_X3_18 (C : Bd p s m args meth c cc nl rt RX3 D cy z) (hP : WP D cy z σ τ o d H) {k : Nat} (hk : kd k = 3) (hdg : decode cc pc = .ok (.getfield 18, 3)) (kk : W p l e Rm s m args below meth c H locs cells slots Q (F0 m (pc + 3) ls (.ref (z + (k + 14)) :: rest))) : W p l e Rm s m args below meth c H locs cells slots Q (F0 m pc ls (.ref (z + k) :: rest)) :=
  g_get C hP (ci := 3) (j := 1) (T := TX3) (R := RX3) (N := 6) (by rw [hk]; decide) (ent_3 hk) rfl inWX3 (by decide) rfl (mA1 (i := 134) rfl rfl) rfl hdg kk
theorem gf_X3_21 (C : Bd p s m args meth c cc nl rt RX3 D cy z) (hP : WP D cy z σ τ o d H) {k : Nat} (hk : kd k = 3) (hdg : decode cc pc = .ok (.getfield 21, 3)) (kk : W p l e Rm s m args below meth c H locs cells slots Q (F0 m (pc + 3) ls (.ref (z + (k + 27)) :: rest))) : W p l e Rm s m args below meth c H locs cells slots Q (F0 m pc ls (.ref (z + k) :: rest)) :=
  g_get C hP (ci := 3) (j := 2) (T := TX3) (R := RX3) (N := 6) (by rw [hk]; decide) (ent_3 hk) rfl inWX3 (by decide) rfl (mA1 (i := 135) rfl rfl) rfl hdg kk
theorem gf_X3_24 (C : Bd p s m args meth c cc nl rt RX3 D cy z) (hP : WP D cy z σ τ o d H) {k : Nat} (hk : kd k = 3) (hdg : decode cc pc = .ok (.getfield 24, 3)) (kk : W p l e Rm s m args below meth c H locs cells slots Q (F0 m (pc + 3) ls (.ref (z + (k + 40)) :: rest))) : W p l e Rm s m args below meth c H locs cells slots Q (F0 m pc ls (.ref (z + k) :: rest)) :=
  g_get C hP (ci := 3) (j := 3) (T := TX3) (R := RX3) (N := 6) (by rw [hk]; decide) (ent_3 hk) rfl inWX3 (by decide) rfl (mA1 (i := 136) rfl rfl) rfl hdg kk
theorem gf_X3_27 (C : Bd p s m args meth c cc nl rt RX3 D cy z) (hP : WP D cy z σ τ o d H) {k : Nat} (hk : kd k = 3) (hdg : decode cc pc = .ok (.getfield 27, 3)) (kk : W p l e Rm s m args below meth c H locs cells slots Q (F0 m (pc + 3) ls (.int (σ k 5) :: rest))) : W p l e Rm s m args below meth c H locs cells slots Q (F0 m pc ls (.ref (z + k) :: rest)) :=
  g_get C hP (ci := 3) (j := 5) (T := TX3) (R := RX3) (N := 6) (by rw [hk]; decide) (ent_3 hk) rfl inWX3 (by decide) rfl (mA1 (i := 138) rfl rfl) rfl hdg kk
theorem pf_X3_27 (C : Bd p s m args meth c cc nl rt RX3 D cy z) (hP : WP D cy z σ τ o d H) (hS : va_S (fz z) s.heap H locs) {k : Nat} {v : Int32} (hk : kd k = 3) (hdg : decode cc pc = .ok (.putfield 27, 3)) (kk : ∀ (H1 : Heap) (locs1 : List Loc), WP D cy z (up σ k 5 v) τ o d H1 → va_S (fz z) s.heap H1 locs1 → W p l e Rm s m args below meth c H1 locs1 cells slots Q (F0 m (pc + 3) ls rest)) : W p l e Rm s m args below meth c H locs cells slots Q (F0 m pc ls (.int v :: .ref (z + k) :: rest)) :=
  g_put C hP hS (σ' := (up σ k 5 v)) (τ' := τ) (ci := 3) (j := 5) (T := TX3) (R := RX3) (N := 6) (ty := .int) (by rw [hk]; decide) (ent_3 hk) rfl inWX3 tyX3_ok nmX3 (by decide) rfl rfl (by decide +kernel) rfl rfl (mA1 (i := 138) rfl rfl) (Nat.le_of_ble_eq_true rfl) (by rw [ent_3 hk]; simp [up]) (fun i hi => (ent_up_ne hi).symm) hdg kk
theorem gf_X3_31 (C : Bd p s m args meth c cc nl rt RX3 D cy z) (hP : WP D cy z σ τ o d H) {k : Nat} (hk : kd k = 3) (hdg : decode cc pc = .ok (.getfield 31, 3)) (kk : W p l e Rm s m args below meth c H locs cells slots Q (F0 m (pc + 3) ls (.int (σ k 4) :: rest))) : W p l e Rm s m args below meth c H locs cells slots Q (F0 m pc ls (.ref (z + k) :: rest)) :=
  g_get C hP (ci := 3) (j := 4) (T := TX3) (R := RX3) (N := 6) (by rw [hk]; decide) (ent_3 hk) rfl inWX3 (by decide) rfl (mA1 (i := 137) rfl rfl) rfl hdg kk
theorem pf_X3_31 (C : Bd p s m args meth c cc nl rt RX3 D cy z) (hP : WP D cy z σ τ o d H) (hS : va_S (fz z) s.heap H locs) {k : Nat} {v : Int32} (hk : kd k = 3) (hdg : decode cc pc = .ok (.putfield 31, 3)) (kk : ∀ (H1 : Heap) (locs1 : List Loc), WP D cy z (up σ k 4 v) τ o d H1 → va_S (fz z) s.heap H1 locs1 → W p l e Rm s m args below meth c H1 locs1 cells slots Q (F0 m (pc + 3) ls rest)) : W p l e Rm s m args below meth c H locs cells slots Q (F0 m pc ls (.int v :: .ref (z + k) :: rest)) :=
  g_put C hP hS (σ' := (up σ k 4 v)) (τ' := τ) (ci := 3) (j := 4) (T := TX3) (R := RX3) (N := 6) (ty := .int) (by rw [hk]; decide) (ent_3 hk) rfl inWX3 tyX3_ok nmX3 (by decide) rfl rfl (by decide +kernel) rfl rfl (mA1 (i := 137) rfl rfl) (Nat.le_of_ble_eq_true rfl) (by rw [ent_3 hk]; simp [up]) (fun i hi => (ent_up_ne hi).symm) hdg kk
theorem gf_X4_12 (C : Bd p s m args meth c cc nl rt RX4 D cy z) (hP : WP D cy z σ τ o d H) {k : Nat} (hk : kd k = 4) (hdg : decode cc pc = .ok (.getfield 12, 3)) (kk : W p l e Rm s m args below meth c H locs cells slots Q (F0 m (pc + 3) ls (.ref (z + (k + 1)) :: rest))) : W p l e Rm s m args below meth c H locs cells slots Q (F0 m pc ls (.ref (z + k) :: rest)) :=
  g_get C hP (ci := 4) (j := 0) (T := TX4) (R := RX4) (N := 12) (by rw [hk]; decide) (ent_4 hk) rfl inWX4 (by decide) rfl (mA1 (i := 54) rfl rfl) rfl hdg kk
theorem gf_X4_18 (C : Bd p s m args meth c cc nl rt RX4 D cy z) (hP : WP D cy z σ τ o d H) {k : Nat} (hk : kd k = 4) (hdg : decode cc pc = .ok (.getfield 18, 3)) (kk : W p l e Rm s m args below meth c H locs cells slots Q (F0 m (pc + 3) ls (.int (σ k 1) :: rest))) : W p l e Rm s m args below meth c H locs cells slots Q (F0 m pc ls (.ref (z + k) :: rest)) :=
  g_get C hP (ci := 4) (j := 1) (T := TX4) (R := RX4) (N := 12) (by rw [hk]; decide) (ent_4 hk) rfl inWX4 (by decide) rfl (mA1 (i := 56) rfl rfl) rfl hdg kk
theorem pf_X4_18 (C : Bd p s m args meth c cc nl rt RX4 D cy z) (hP : WP D cy z σ τ o d H) (hS : va_S (fz z) s.heap H locs) {k : Nat} {v : Int32} (hk : kd k = 4) (hdg : decode cc pc = .ok (.putfield 18, 3)) (kk : ∀ (H1 : Heap) (locs1 : List Loc), WP D cy z (up σ k 1 v) τ o d H1 → va_S (fz z) s.heap H1 locs1 → W p l e Rm s m args below meth c H1 locs1 cells slots Q (F0 m (pc + 3) ls rest)) : W p l e Rm s m args below meth c H locs cells slots Q (F0 m pc ls (.int v :: .ref (z + k) :: rest)) :=
  g_put C hP hS (σ' := (up σ k 1 v)) (τ' := τ) (ci := 4) (j := 1) (T := TX4) (R := RX4) (N := 12) (ty := .int) (by rw [hk]; decide) (ent_4 hk) rfl inWX4 tyX4_ok nmX4 (by decide) rfl rfl (by decide +kernel) rfl rfl (mA1 (i := 56) rfl rfl) (Nat.le_of_ble_eq_true rfl) (by rw [ent_4 hk]; simp [up]) (fun i hi => (ent_up_ne hi).symm) hdg kk
theorem gf_X4_26 (C : Bd p s m args meth c cc nl rt RX4 D cy z) (hP : WP D cy z σ τ o d H) {k : Nat} (hk : kd k = 4) (hdg : decode cc pc = .ok (.getfield 26, 3)) (kk : W p l e Rm s m args below meth c H locs cells slots Q (F0 m (pc + 3) ls (.int (σ k 3) :: rest))) : W p l e Rm s m args below meth c H locs cells slots Q (F0 m pc ls (.ref (z + k) :: rest)) :=
  g_get C hP (ci := 4) (j := 3) (T := TX4) (R := RX4) (N := 12) (by rw [hk]; decide) (ent_4 hk) rfl inWX4 (by decide) rfl (mA1 (i := 61) rfl rfl) rfl hdg kk
theorem pf_X4_26 (C : Bd p s m args meth c cc nl rt RX4 D cy z) (hP : WP D cy z σ τ o d H) (hS : va_S (fz z) s.heap H locs) {k : Nat} {v : Int32} (hk : kd k = 4) (hdg : decode cc pc = .ok (.putfield 26, 3)) (kk : ∀ (H1 : Heap) (locs1 : List Loc), WP D cy z (up σ k 3 v) τ o d H1 → va_S (fz z) s.heap H1 locs1 → W p l e Rm s m args below meth c H1 locs1 cells slots Q (F0 m (pc + 3) ls rest)) : W p l e Rm s m args below meth c H locs cells slots Q (F0 m pc ls (.int v :: .ref (z + k) :: rest)) :=
  g_put C hP hS (σ' := (up σ k 3 v)) (τ' := τ) (ci := 4) (j := 3) (T := TX4) (R := RX4) (N := 12) (ty := .int) (by rw [hk]; decide) (ent_4 hk) rfl inWX4 tyX4_ok nmX4 (by decide) rfl rfl (by decide +kernel) rfl rfl (mA1 (i := 61) rfl rfl) (Nat.le_of_ble_eq_true rfl) (by rw [ent_4 hk]; simp [up]) (fun i hi => (ent_up_ne hi).symm) hdg kk
theorem gf_X4_32 (C : Bd p s m args meth c cc nl rt RX4 D cy z) (hP : WP D cy z σ τ o d H) {k : Nat} (hk : kd k = 4) (hdg : decode cc pc = .ok (.getfield 32, 3)) (kk : W p l e Rm s m args below meth c H locs cells slots Q (F0 m (pc + 3) ls (.int (σ k 11) :: rest))) : W p l e Rm s m args below meth c H locs cells slots Q (F0 m pc ls (.ref (z + k) :: rest)) :=
  g_get C hP (ci := 4) (j := 11) (T := TX4) (R := RX4) (N := 12) (by rw [hk]; decide) (ent_4 hk) rfl inWX4 (by decide) rfl (mA1 (i := 77) rfl rfl) rfl hdg kk
theorem pf_X4_32 (C : Bd p s m args meth c cc nl rt RX4 D cy z) (hP : WP D cy z σ τ o d H) (hS : va_S (fz z) s.heap H locs) {k : Nat} {v : Int32} (hk : kd k = 4) (hdg : decode cc pc = .ok (.putfield 32, 3)) (kk : ∀ (H1 : Heap) (locs1 : List Loc), WP D cy z (up σ k 11 v) τ o d H1 → va_S (fz z) s.heap H1 locs1 → W p l e Rm s m args below meth c H1 locs1 cells slots Q (F0 m (pc + 3) ls rest)) : W p l e Rm s m args below meth c H locs cells slots Q (F0 m pc ls (.int v :: .ref (z + k) :: rest)) :=
  g_put C hP hS (σ' := (up σ k 11 v)) (τ' := τ) (ci := 4) (j := 11) (T := TX4) (R := RX4) (N := 12) (ty := .int) (by rw [hk]; decide) (ent_4 hk) rfl inWX4 tyX4_ok nmX4 (by decide) rfl rfl (by decide +kernel) rfl rfl (mA1 (i := 77) rfl rfl) (Nat.le_of_ble_eq_true rfl) (by rw [ent_4 hk]; simp [up]) (fun i hi => (ent_up_ne hi).symm) hdg kk
theorem gf_X4_36 (C : Bd p s m args meth c cc nl rt RX4 D cy z) (hP : WP D cy z σ τ o d H) {k : Nat} (hk : kd k = 4) (hdg : decode cc pc = .ok (.getfield 36, 3)) (kk : W p l e Rm s m args below meth c H locs cells slots Q (F0 m (pc + 3) ls (.int (σ k 10) :: rest))) : W p l e Rm s m args below meth c H locs cells slots Q (F0 m pc ls (.ref (z + k) :: rest)) :=
  g_get C hP (ci := 4) (j := 10) (T := TX4) (R := RX4) (N := 12) (by rw [hk]; decide) (ent_4 hk) rfl inWX4 (by decide) rfl (mA1 (i := 75) rfl rfl) rfl hdg kk
theorem pf_X4_36 (C : Bd p s m args meth c cc nl rt RX4 D cy z) (hP : WP D cy z σ τ o d H) (hS : va_S (fz z) s.heap H locs) {k : Nat} {v : Int32} (hk : kd k = 4) (hdg : decode cc pc = .ok (.putfield 36, 3)) (kk : ∀ (H1 : Heap) (locs1 : List Loc), WP D cy z (up σ k 10 v) τ o d H1 → va_S (fz z) s.heap H1 locs1 → W p l e Rm s m args below meth c H1 locs1 cells slots Q (F0 m (pc + 3) ls rest)) : W p l e Rm s m args below meth c H locs cells slots Q (F0 m pc ls (.int v :: .ref (z + k) :: rest)) :=
  g_put C hP hS (σ' := (up σ k 10 v)) (τ' := τ) (ci := 4) (j := 10) (T := TX4) (R := RX4) (N := 12) (ty := .int) (by rw [hk]; decide) (ent_4 hk) rfl inWX4 tyX4_ok nmX4 (by decide) rfl rfl (by decide +kernel) rfl rfl (mA1 (i := 75) rfl rfl) (Nat.le_of_ble_eq_true rfl) (by rw [ent_4 hk]; simp [up]) (fun i hi => (ent_up_ne hi).symm) hdg kk
theorem gf_X4_39 (C : Bd p s m args meth c cc nl rt RX4 D cy z) (hP : WP D cy z σ τ o d H) {k : Nat} (hk : kd k = 4) (hdg : decode cc pc = .ok (.getfield 39, 3)) (kk : W p l e Rm s m args below meth c H locs cells slots Q (F0 m (pc + 3) ls (.int (σ k 8) :: rest))) : W p l e Rm s m args below meth c H locs cells slots Q (F0 m pc ls (.ref (z + k) :: rest)) :=
  g_get C hP (ci := 4) (j := 8) (T := TX4) (R := RX4) (N := 12) (by rw [hk]; decide) (ent_4 hk) rfl inWX4 (by decide) rfl (mA1 (i := 71) rfl rfl) rfl hdg kk
theorem pf_X4_39 (C : Bd p s m args meth c cc nl rt RX4 D cy z) (hP : WP D cy z σ τ o d H) (hS : va_S (fz z) s.heap H locs) {k : Nat} {v : Int32} (hk : kd k = 4) (hdg : decode cc pc = .ok (.putfield 39, 3)) (kk : ∀ (H1 : Heap) (locs1 : List Loc), WP D cy z (up σ k 8 v) τ o d H1 → va_S (fz z) s.heap H1 locs1 → W p l e Rm s m args below meth c H1 locs1 cells slots Q (F0 m (pc + 3) ls rest)) : W p l e Rm s m args below meth c H locs cells slots Q (F0 m pc ls (.int v :: .ref (z + k) :: rest)) :=
  g_put C hP hS (σ' := (up σ k 8 v)) (τ' := τ) (ci := 4) (j := 8) (T := TX4) (R := RX4) (N := 12) (ty := .int) (by rw [hk]; decide) (ent_4 hk) rfl inWX4 tyX4_ok nmX4 (by decide) rfl rfl (by decide +kernel) rfl rfl (mA1 (i := 71) rfl rfl) (Nat.le_of_ble_eq_true rfl) (by rw [ent_4 hk]; simp [up]) (fun i hi => (ent_up_ne hi).symm) hdg kk
theorem gf_X4_49 (C : Bd p s m args meth c cc nl rt RX4 D cy z) (hP : WP D cy z σ τ o d H) {k : Nat} (hk : kd k = 1) (hdg : decode cc pc = .ok (.getfield 49, 3)) (kk : W p l e Rm s m args below meth c H locs cells slots Q (F0 m (pc + 3) ls (.int (σ k 2) :: rest))) : W p l e Rm s m args below meth c H locs cells slots Q (F0 m pc ls (.ref (z + k) :: rest)) :=
  g_getN C hP (ci := 1) (j := 2) (T := TX1) (R := RX1) (N := 3) (host := "QuadSnail") (by rw [hk]; decide) (ent_1 hk) rfl inWX1 (by decide) rfl (by decide +kernel) rfl hdg kk
theorem gf_X4_77 (C : Bd p s m args meth c cc nl rt RX4 D cy z) (hP : WP D cy z σ τ o d H) {k : Nat} (hk : kd k = 4) (hdg : decode cc pc = .ok (.getfield 77, 3)) (kk : W p l e Rm s m args below meth c H locs cells slots Q (F0 m (pc + 3) ls (.int (σ k 2) :: rest))) : W p l e Rm s m args below meth c H locs cells slots Q (F0 m pc ls (.ref (z + k) :: rest)) :=
  g_get C hP (ci := 4) (j := 2) (T := TX4) (R := RX4) (N := 12) (by rw [hk]; decide) (ent_4 hk) rfl inWX4 (by decide) rfl (mA1 (i := 60) rfl rfl) rfl hdg kk
theorem pf_X4_77 (C : Bd p s m args meth c cc nl rt RX4 D cy z) (hP : WP D cy z σ τ o d H) (hS : va_S (fz z) s.heap H locs) {k : Nat} {v : Int32} (hk : kd k = 4) (hdg : decode cc pc = .ok (.putfield 77, 3)) (kk : ∀ (H1 : Heap) (locs1 : List Loc), WP D cy z (up σ k 2 v) τ o d H1 → va_S (fz z) s.heap H1 locs1 → W p l e Rm s m args below meth c H1 locs1 cells slots Q (F0 m (pc + 3) ls rest)) : W p l e Rm s m args below meth c H locs cells slots Q (F0 m pc ls (.int v :: .ref (z + k) :: rest)) :=
  g_put C hP hS (σ' := (up σ k 2 v)) (τ' := τ) (ci := 4) (j := 2) (T := TX4) (R := RX4) (N := 12) (ty := .int) (by rw [hk]; decide) (ent_4 hk) rfl inWX4 tyX4_ok nmX4 (by decide) rfl rfl (by decide +kernel) rfl rfl (mA1 (i := 60) rfl rfl) (Nat.le_of_ble_eq_true rfl) (by rw [ent_4 hk]; simp [up]) (fun i hi => (ent_up_ne hi).symm) hdg kk
theorem gf_X4_80 (C : Bd p s m args meth c cc nl rt RX4 D cy z) (hP : WP D cy z σ τ o d H) {k : Nat} (hk : kd k = 4) (hdg : decode cc pc = .ok (.getfield 80, 3)) (kk : W p l e Rm s m args below meth c H locs cells slots Q (F0 m (pc + 3) ls (.int (σ k 4) :: rest))) : W p l e Rm s m args below meth c H locs cells slots Q (F0 m pc ls (.ref (z + k) :: rest)) :=
  g_get C hP (ci := 4) (j := 4) (T := TX4) (R := RX4) (N := 12) (by rw [hk]; decide) (ent_4 hk) rfl inWX4 (by decide) rfl (mA1 (i := 63) rfl rfl) rfl hdg kk
theorem pf_X4_80 (C : Bd p s m args meth c cc nl rt RX4 D cy z) (hP : WP D cy z σ τ o d H) (hS : va_S (fz z) s.heap H locs) {k : Nat} {v : Int32} (hk : kd k = 4) (hdg : decode cc pc = .ok (.putfield 80, 3)) (kk : ∀ (H1 : Heap) (locs1 : List Loc), WP D cy z (up σ k 4 v) τ o d H1 → va_S (fz z) s.heap H1 locs1 → W p l e Rm s m args below meth c H1 locs1 cells slots Q (F0 m (pc + 3) ls rest)) : W p l e Rm s m args below meth c H locs cells slots Q (F0 m pc ls (.int v :: .ref (z + k) :: rest)) :=
  g_put C hP hS (σ' := (up σ k 4 v)) (τ' := τ) (ci := 4) (j := 4) (T := TX4) (R := RX4) (N := 12) (ty := .int) (by rw [hk]; decide) (ent_4 hk) rfl inWX4 tyX4_ok nmX4 (by decide) rfl rfl (by decide +kernel) rfl rfl (mA1 (i := 63) rfl rfl) (Nat.le_of_ble_eq_true rfl) (by rw [ent_4 hk]; simp [up]) (fun i hi => (ent_up_ne hi).symm) hdg kk
theorem gf_X4_83 (C : Bd p s m args meth c cc nl rt RX4 D cy z) (hP : WP D cy z σ τ o d H) {k : Nat} (hk : kd k = 4) (hdg : decode cc pc = .ok (.getfield 83, 3)) (kk : W p l e Rm s m args below meth c H locs cells slots Q (F0 m (pc + 3) ls (.int (σ k 5) :: rest))) : W p l e Rm s m args below meth c H locs cells slots Q (F0 m pc ls (.ref (z + k) :: rest)) :=
  g_get C hP (ci := 4) (j := 5) (T := TX4) (R := RX4) (N := 12) (by rw [hk]; decide) (ent_4 hk) rfl inWX4 (by decide) rfl (mA1 (i := 65) rfl rfl) rfl hdg kk
theorem pf_X4_83 (C : Bd p s m args meth c cc nl rt RX4 D cy z) (hP : WP D cy z σ τ o d H) (hS : va_S (fz z) s.heap H locs) {k : Nat} {v : Int32} (hk : kd k = 4) (hdg : decode cc pc = .ok (.putfield 83, 3)) (kk : ∀ (H1 : Heap) (locs1 : List Loc), WP D cy z (up σ k 5 v) τ o d H1 → va_S (fz z) s.heap H1 locs1 → W p l e Rm s m args below meth c H1 locs1 cells slots Q (F0 m (pc + 3) ls rest)) : W p l e Rm s m args below meth c H locs cells slots Q (F0 m pc ls (.int v :: .ref (z + k) :: rest)) :=
  g_put C hP hS (σ' := (up σ k 5 v)) (τ' := τ) (ci := 4) (j := 5) (T := TX4) (R := RX4) (N := 12) (ty := .int) (by rw [hk]; decide) (ent_4 hk) rfl inWX4 tyX4_ok nmX4 (by decide) rfl rfl (by decide +kernel) rfl rfl (mA1 (i := 65) rfl rfl) (Nat.le_of_ble_eq_true rfl) (by rw [ent_4 hk]; simp [up]) (fun i hi => (ent_up_ne hi).symm) hdg kk
theorem gf_X4_86 (C : Bd p s m args meth c cc nl rt RX4 D cy z) (hP : WP D cy z σ τ o d H) {k : Nat} (hk : kd k = 4) (hdg : decode cc pc = .ok (.getfield 86, 3)) (kk : W p l e Rm s m args below meth c H locs cells slots Q (F0 m (pc + 3) ls (.int (σ k 6) :: rest))) : W p l e Rm s m args below meth c H locs cells slots Q (F0 m pc ls (.ref (z + k) :: rest)) :=
  g_get C hP (ci := 4) (j := 6) (T := TX4) (R := RX4) (N := 12) (by rw [hk]; decide) (ent_4 hk) rfl inWX4 (by decide) rfl (mA1 (i := 67) rfl rfl) rfl hdg kk
theorem pf_X4_86 (C : Bd p s m args meth c cc nl rt RX4 D cy z) (hP : WP D cy z σ τ o d H) (hS : va_S (fz z) s.heap H locs) {k : Nat} {v : Int32} (hk : kd k = 4) (hdg : decode cc pc = .ok (.putfield 86, 3)) (kk : ∀ (H1 : Heap) (locs1 : List Loc), WP D cy z (up σ k 6 v) τ o d H1 → va_S (fz z) s.heap H1 locs1 → W p l e Rm s m args below meth c H1 locs1 cells slots Q (F0 m (pc + 3) ls rest)) : W p l e Rm s m args below meth c H locs cells slots Q (F0 m pc ls (.int v :: .ref (z + k) :: rest)) :=
  g_put C hP hS (σ' := (up σ k 6 v)) (τ' := τ) (ci := 4) (j := 6) (T := TX4) (R := RX4) (N := 12) (ty := .int) (by rw [hk]; decide) (ent_4 hk) rfl inWX4 tyX4_ok nmX4 (by decide) rfl rfl (by decide +kernel) rfl rfl (mA1 (i := 67) rfl rfl) (Nat.le_of_ble_eq_true rfl) (by rw [ent_4 hk]; simp [up]) (fun i hi => (ent_up_ne hi).symm) hdg kk
theorem gf_X4_99 (C : Bd p s m args meth c cc nl rt RX4 D cy z) (hP : WP D cy z σ τ o d H) {k : Nat} (hk : kd k = 4) (hdg : decode cc pc = .ok (.getfield 99, 3)) (kk : W p l e Rm s m args below meth c H locs cells slots Q (F0 m (pc + 3) ls (.int (σ k 7) :: rest))) : W p l e Rm s m args below meth c H locs cells slots Q (F0 m pc ls (.ref (z + k) :: rest)) :=
  g_get C hP (ci := 4) (j := 7) (T := TX4) (R := RX4) (N := 12) (by rw [hk]; decide) (ent_4 hk) rfl inWX4 (by decide) rfl (mA1 (i := 69) rfl rfl) rfl hdg kk
theorem pf_X4_99 (C : Bd p s m args meth c cc nl rt RX4 D cy z) (hP : WP D cy z σ τ o d H) (hS : va_S (fz z) s.heap H locs) {k : Nat} {v : Int32} (hk : kd k = 4) (hdg : decode cc pc = .ok (.putfield 99, 3)) (kk : ∀ (H1 : Heap) (locs1 : List Loc), WP D cy z (up σ k 7 v) τ o d H1 → va_S (fz z) s.heap H1 locs1 → W p l e Rm s m args below meth c H1 locs1 cells slots Q (F0 m (pc + 3) ls rest)) : W p l e Rm s m args below meth c H locs cells slots Q (F0 m pc ls (.int v :: .ref (z + k) :: rest)) :=
  g_put C hP hS (σ' := (up σ k 7 v)) (τ' := τ) (ci := 4) (j := 7) (T := TX4) (R := RX4) (N := 12) (ty := .int) (by rw [hk]; decide) (ent_4 hk) rfl inWX4 tyX4_ok nmX4 (by decide) rfl rfl (by decide +kernel) rfl rfl (mA1 (i := 69) rfl rfl) (Nat.le_of_ble_eq_true rfl) (by rw [ent_4 hk]; simp [up]) (fun i hi => (ent_up_ne hi).symm) hdg kk
theorem gf_X4_102 (C : Bd p s m args meth c cc nl rt RX4 D cy z) (hP : WP D cy z σ τ o d H) {k : Nat} (hk : kd k = 4) (hdg : decode cc pc = .ok (.getfield 102, 3)) (kk : W p l e Rm s m args below meth c H locs cells slots Q (F0 m (pc + 3) ls (.int (σ k 9) :: rest))) : W p l e Rm s m args below meth c H locs cells slots Q (F0 m pc ls (.ref (z + k) :: rest)) :=
  g_get C hP (ci := 4) (j := 9) (T := TX4) (R := RX4) (N := 12) (by rw [hk]; decide) (ent_4 hk) rfl inWX4 (by decide) rfl (mA1 (i := 73) rfl rfl) rfl hdg kk
theorem pf_X4_102 (C : Bd p s m args meth c cc nl rt RX4 D cy z) (hP : WP D cy z σ τ o d H) (hS : va_S (fz z) s.heap H locs) {k : Nat} {v : Int32} (hk : kd k = 4) (hdg : decode cc pc = .ok (.putfield 102, 3)) (kk : ∀ (H1 : Heap) (locs1 : List Loc), WP D cy z (up σ k 9 v) τ o d H1 → va_S (fz z) s.heap H1 locs1 → W p l e Rm s m args below meth c H1 locs1 cells slots Q (F0 m (pc + 3) ls rest)) : W p l e Rm s m args below meth c H locs cells slots Q (F0 m pc ls (.int v :: .ref (z + k) :: rest)) :=
  g_put C hP hS (σ' := (up σ k 9 v)) (τ' := τ) (ci := 4) (j := 9) (T := TX4) (R := RX4) (N := 12) (ty := .int) (by rw [hk]; decide) (ent_4 hk) rfl inWX4 tyX4_ok nmX4 (by decide) rfl rfl (by decide +kernel) rfl rfl (mA1 (i := 73) rfl rfl) (Nat.le_of_ble_eq_true rfl) (by rw [ent_4 hk]; simp [up]) (fun i hi => (ent_up_ne hi).symm) hdg kk
theorem gf_X5_10 (C : Bd p s m args meth c cc nl rt RX5 D cy z) (hP : WP D cy z σ τ o d H) {k : Nat} (hk : kd k = 5) (hdg : decode cc pc = .ok (.getfield 10, 3)) (kk : W p l e Rm s m args below meth c H locs cells slots Q (F0 m (pc + 3) ls (.ref (z + (k + 1)) :: rest))) : W p l e Rm s m args below meth c H locs cells slots Q (F0 m pc ls (.ref (z + k) :: rest)) :=
  g_get C hP (ci := 5) (j := 0) (T := TX5) (R := RX5) (N := 6) (by rw [hk]; decide) (ent_5 hk) rfl inWX5 (by decide) rfl (mA1 (i := 168) rfl rfl) rfl hdg kk
theorem gf_X5_16 (C : Bd p s m args meth c cc nl rt RX5 D cy z) (hP : WP D cy z σ τ o d H) {k : Nat} (hk : kd k = 5) (hdg : decode cc pc = .ok (.getfield 16, 3)) (kk : W p l e Rm s m args below meth c H locs cells slots Q (F0 m (pc + 3) ls (.ref (z + (k + 14)) :: rest))) : W p l e Rm s m args below meth c H locs cells slots Q (F0 m pc ls (.ref (z + k) :: rest)) :=
  g_get C hP (ci := 5) (j := 1) (T := TX5) (R := RX5) (N := 6) (by rw [hk]; decide) (ent_5 hk) rfl inWX5 (by decide) rfl (mA1 (i := 169) rfl rfl) rfl hdg kk
theorem gf_X5_19 (C : Bd p s m args meth c cc nl rt RX5 D cy z) (hP : WP D cy z σ τ o d H) {k : Nat} (hk : kd k = 5) (hdg : decode cc pc = .ok (.getfield 19, 3)) (kk : W p l e Rm s m args below meth c H locs cells slots Q (F0 m (pc + 3) ls (.ref (z + (k + 27)) :: rest))) : W p l e Rm s m args below meth c H locs cells slots Q (F0 m pc ls (.ref (z + k) :: rest)) :=
  g_get C hP (ci := 5) (j := 2) (T := TX5) (R := RX5) (N := 6) (by rw [hk]; decide) (ent_5 hk) rfl inWX5 (by decide) rfl (mA1 (i := 170) rfl rfl) rfl hdg kk
theorem gf_X5_25 (C : Bd p s m args meth c cc nl rt RX5 D cy z) (hP : WP D cy z σ τ o d H) {k : Nat} (hk : kd k = 5) (hdg : decode cc pc = .ok (.getfield 25, 3)) (kk : W p l e Rm s m args below meth c H locs cells slots Q (F0 m (pc + 3) ls (.ref (z + (k + 40)) :: rest))) : W p l e Rm s m args below meth c H locs cells slots Q (F0 m pc ls (.ref (z + k) :: rest)) :=
  g_get C hP (ci := 5) (j := 3) (T := TX5) (R := RX5) (N := 6) (by rw [hk]; decide) (ent_5 hk) rfl inWX5 (by decide) rfl (mA1 (i := 171) rfl rfl) rfl hdg kk
theorem gf_X5_32 (C : Bd p s m args meth c cc nl rt RX5 D cy z) (hP : WP D cy z σ τ o d H) {k : Nat} (hk : kd k = 5) (hdg : decode cc pc = .ok (.getfield 32, 3)) (kk : W p l e Rm s m args below meth c H locs cells slots Q (F0 m (pc + 3) ls (.ref (z + (k + 93)) :: rest))) : W p l e Rm s m args below meth c H locs cells slots Q (F0 m pc ls (.ref (z + k) :: rest)) :=
  g_get C hP (ci := 5) (j := 4) (T := TX5) (R := RX5) (N := 6) (by rw [hk]; decide) (ent_5 hk) rfl inWX5 (by decide) rfl (mA1 (i := 172) rfl rfl) rfl hdg kk
theorem gf_X5_51 (C : Bd p s m args meth c cc nl rt RX5 D cy z) (hP : WP D cy z σ τ o d H) {k : Nat} (hk : kd k = 0) (hdg : decode cc pc = .ok (.getfield 51, 3)) (kk : W p l e Rm s m args below meth c H locs cells slots Q (F0 m (pc + 3) ls (.int (σ k 4) :: rest))) : W p l e Rm s m args below meth c H locs cells slots Q (F0 m pc ls (.ref (z + k) :: rest)) :=
  g_getN C hP (ci := 0) (j := 4) (T := TX0) (R := RX0) (N := 6) (host := "QuadSnail") (by rw [hk]; decide) (ent_0 hk) rfl inWX0 (by decide) rfl (by decide +kernel) rfl hdg kk
theorem pf_X5_51 (C : Bd p s m args meth c cc nl rt RX5 D cy z) (hP : WP D cy z σ τ o d H) (hS : va_S (fz z) s.heap H locs) {k : Nat} {v : Int32} (hk : kd k = 0) (hdg : decode cc pc = .ok (.putfield 51, 3)) (kk : ∀ (H1 : Heap) (locs1 : List Loc), WP D cy z (up σ k 4 v) τ o d H1 → va_S (fz z) s.heap H1 locs1 → W p l e Rm s m args below meth c H1 locs1 cells slots Q (F0 m (pc + 3) ls rest)) : W p l e Rm s m args below meth c H locs cells slots Q (F0 m pc ls (.int v :: .ref (z + k) :: rest)) :=
  g_putN C hP hS (σ' := (up σ k 4 v)) (τ' := τ) (ci := 0) (j := 4) (T := TX0) (R := RX0) (N := 6) (ty := .int) (host := "QuadSnail") (by rw [hk]; decide) (ent_0 hk) rfl inWX0 tyX0_ok nmX0 (by decide) rfl rfl (by decide +kernel) rfl rfl (by decide +kernel) (Nat.le_of_ble_eq_true rfl) (by rw [ent_0 hk]; simp [up]) (fun i hi => (ent_up_ne hi).symm) hdg kk
theorem gf_X5_84 (C : Bd p s m args meth c cc nl rt RX5 D cy z) (hP : WP D cy z σ τ o d H) {k : Nat} (hk : kd k = 4) (hdg : decode cc pc = .ok (.getfield 84, 3)) (kk : W p l e Rm s m args below meth c H locs cells slots Q (F0 m (pc + 3) ls (.int (σ k 2) :: rest))) : W p l e Rm s m args below meth c H locs cells slots Q (F0 m pc ls (.ref (z + k) :: rest)) :=
  g_getN C hP (ci := 4) (j := 2) (T := TX4) (R := RX4) (N := 12) (host := "QuadSnail") (by rw [hk]; decide) (ent_4 hk) rfl inWX4 (by decide) rfl (by decide +kernel) rfl hdg kk
theorem gf_X5_87 (C : Bd p s m args meth c cc nl rt RX5 D cy z) (hP : WP D cy z σ τ o d H) {k : Nat} (hk : kd k = 0) (hdg : decode cc pc = .ok (.getfield 87, 3)) (kk : W p l e Rm s m args below meth c H locs cells slots Q (F0 m (pc + 3) ls (.int (σ k 5) :: rest))) : W p l e Rm s m args below meth c H locs cells slots Q (F0 m pc ls (.ref (z + k) :: rest)) :=
  g_getN C hP (ci := 0) (j := 5) (T := TX0) (R := RX0) (N := 6) (host := "QuadSnail") (by rw [hk]; decide) (ent_0 hk) rfl inWX0 (by decide) rfl (by decide +kernel) rfl hdg kk
theorem pf_X5_87 (C : Bd p s m args meth c cc nl rt RX5 D cy z) (hP : WP D cy z σ τ o d H) (hS : va_S (fz z) s.heap H locs) {k : Nat} {v : Int32} (hk : kd k = 0) (hdg : decode cc pc = .ok (.putfield 87, 3)) (kk : ∀ (H1 : Heap) (locs1 : List Loc), WP D cy z (up σ k 5 v) τ o d H1 → va_S (fz z) s.heap H1 locs1 → W p l e Rm s m args below meth c H1 locs1 cells slots Q (F0 m (pc + 3) ls rest)) : W p l e Rm s m args below meth c H locs cells slots Q (F0 m pc ls (.int v :: .ref (z + k) :: rest)) :=
  g_putN C hP hS (σ' := (up σ k 5 v)) (τ' := τ) (ci := 0) (j := 5) (T := TX0) (R := RX0) (N := 6) (ty := .int) (host := "QuadSnail") (by rw [hk]; decide) (ent_0 hk) rfl inWX0 tyX0_ok nmX0 (by decide) rfl rfl (by decide +kernel) rfl rfl (by decide +kernel) (Nat.le_of_ble_eq_true rfl) (by rw [ent_0 hk]; simp [up]) (fun i hi => (ent_up_ne hi).symm) hdg kk
theorem gf_X5_111 (C : Bd p s m args meth c cc nl rt RX5 D cy z) (hP : WP D cy z σ τ o d H) {k : Nat} (hk : kd k = 2) (hdg : decode cc pc = .ok (.getfield 111, 3)) (kk : W p l e Rm s m args below meth c H locs cells slots Q (F0 m (pc + 3) ls (.int (σ k 1) :: rest))) : W p l e Rm s m args below meth c H locs cells slots Q (F0 m pc ls (.ref (z + k) :: rest)) :=
  g_getN C hP (ci := 2) (j := 1) (T := TX2) (R := RX2) (N := 2) (host := "QuadSnail") (by rw [hk]; decide) (ent_2 hk) rfl inWX2 (by decide) rfl (by decide +kernel) rfl hdg kk
theorem pf_X5_111 (C : Bd p s m args meth c cc nl rt RX5 D cy z) (hP : WP D cy z σ τ o d H) (hS : va_S (fz z) s.heap H locs) {k : Nat} {v : Int32} (hk : kd k = 2) (hdg : decode cc pc = .ok (.putfield 111, 3)) (kk : ∀ (H1 : Heap) (locs1 : List Loc), WP D cy z (up σ k 1 v) τ o d H1 → va_S (fz z) s.heap H1 locs1 → W p l e Rm s m args below meth c H1 locs1 cells slots Q (F0 m (pc + 3) ls rest)) : W p l e Rm s m args below meth c H locs cells slots Q (F0 m pc ls (.int v :: .ref (z + k) :: rest)) :=
  g_putN C hP hS (σ' := (up σ k 1 v)) (τ' := τ) (ci := 2) (j := 1) (T := TX2) (R := RX2) (N := 2) (ty := .int) (host := "QuadSnail") (by rw [hk]; decide) (ent_2 hk) rfl inWX2 tyX2_ok nmX2 (by decide) rfl rfl (by decide +kernel) rfl rfl (by decide +kernel) (Nat.le_of_ble_eq_true rfl) (by rw [ent_2 hk]; simp [up]) (fun i hi => (ent_up_ne hi).symm) hdg kk
theorem gf_X5_139 (C : Bd p s m args meth c cc nl rt RX5 D cy z) (hP : WP D cy z σ τ o d H) {k : Nat} (hk : kd k = 3) (hdg : decode cc pc = .ok (.getfield 139, 3)) (kk : W p l e Rm s m args below meth c H locs cells slots Q (F0 m (pc + 3) ls (.int (σ k 5) :: rest))) : W p l e Rm s m args below meth c H locs cells slots Q (F0 m pc ls (.ref (z + k) :: rest)) :=
  g_getN C hP (ci := 3) (j := 5) (T := TX3) (R := RX3) (N := 6) (host := "QuadSnail") (by rw [hk]; decide) (ent_3 hk) rfl inWX3 (by decide) rfl (by decide +kernel) rfl hdg kk
theorem gf_X5_145 (C : Bd p s m args meth c cc nl rt RX5 D cy z) (hP : WP D cy z σ τ o d H) {k : Nat} (hk : kd k = 5) (hdg : decode cc pc = .ok (.getfield 145, 3)) (kk : W p l e Rm s m args below meth c H locs cells slots Q (F0 m (pc + 3) ls (.int (σ k 5) :: rest))) : W p l e Rm s m args below meth c H locs cells slots Q (F0 m pc ls (.ref (z + k) :: rest)) :=
  g_get C hP (ci := 5) (j := 5) (T := TX5) (R := RX5) (N := 6) (by rw [hk]; decide) (ent_5 hk) rfl inWX5 (by decide) rfl (mA1 (i := 173) rfl rfl) rfl hdg kk
theorem pf_X5_145 (C : Bd p s m args meth c cc nl rt RX5 D cy z) (hP : WP D cy z σ τ o d H) (hS : va_S (fz z) s.heap H locs) {k : Nat} {v : Int32} (hk : kd k = 5) (hn : narrow .boolean (.int v) = .int v) (hf : fits .boolean (.int v) = true) (hdg : decode cc pc = .ok (.putfield 145, 3)) (kk : ∀ (H1 : Heap) (locs1 : List Loc), WP D cy z (up σ k 5 v) τ o d H1 → va_S (fz z) s.heap H1 locs1 → W p l e Rm s m args below meth c H1 locs1 cells slots Q (F0 m (pc + 3) ls rest)) : W p l e Rm s m args below meth c H locs cells slots Q (F0 m pc ls (.int v :: .ref (z + k) :: rest)) :=
  g_put C hP hS (σ' := (up σ k 5 v)) (τ' := τ) (ci := 5) (j := 5) (T := TX5) (R := RX5) (N := 6) (ty := .boolean) (by rw [hk]; decide) (ent_5 hk) rfl inWX5 tyX5_ok nmX5 (by decide) rfl rfl (by decide +kernel) hn hf (mA1 (i := 173) rfl rfl) (Nat.le_of_ble_eq_true rfl) (by rw [ent_5 hk]; simp [up]) (fun i hi => (ent_up_ne hi).symm) hdg kk
theorem gf_X5_154 (C : Bd p s m args meth c cc nl rt RX5 D cy z) (hP : WP D cy z σ τ o d H) {k : Nat} (hk : kd k = 4) (hdg : decode cc pc = .ok (.getfield 154, 3)) (kk : W p l e Rm s m args below meth c H locs cells slots Q (F0 m (pc + 3) ls (.int (σ k 1) :: rest))) : W p l e Rm s m args below meth c H locs cells slots Q (F0 m pc ls (.ref (z + k) :: rest)) :=
  g_getN C hP (ci := 4) (j := 1) (T := TX4) (R := RX4) (N := 12) (host := "QuadSnail") (by rw [hk]; decide) (ent_4 hk) rfl inWX4 (by decide) rfl (by decide +kernel) rfl hdg kk
theorem gf_X5_157 (C : Bd p s m args meth c cc nl rt RX5 D cy z) (hP : WP D cy z σ τ o d H) {k : Nat} (hk : kd k = 4) (hdg : decode cc pc = .ok (.getfield 157, 3)) (kk : W p l e Rm s m args below meth c H locs cells slots Q (F0 m (pc + 3) ls (.int (σ k 4) :: rest))) : W p l e Rm s m args below meth c H locs cells slots Q (F0 m pc ls (.ref (z + k) :: rest)) :=
  g_getN C hP (ci := 4) (j := 4) (T := TX4) (R := RX4) (N := 12) (host := "QuadSnail") (by rw [hk]; decide) (ent_4 hk) rfl inWX4 (by decide) rfl (by decide +kernel) rfl hdg kk
theorem gf_X5_160 (C : Bd p s m args meth c cc nl rt RX5 D cy z) (hP : WP D cy z σ τ o d H) {k : Nat} (hk : kd k = 4) (hdg : decode cc pc = .ok (.getfield 160, 3)) (kk : W p l e Rm s m args below meth c H locs cells slots Q (F0 m (pc + 3) ls (.int (σ k 5) :: rest))) : W p l e Rm s m args below meth c H locs cells slots Q (F0 m pc ls (.ref (z + k) :: rest)) :=
  g_getN C hP (ci := 4) (j := 5) (T := TX4) (R := RX4) (N := 12) (host := "QuadSnail") (by rw [hk]; decide) (ent_4 hk) rfl inWX4 (by decide) rfl (by decide +kernel) rfl hdg kk
theorem gf_X5_163 (C : Bd p s m args meth c cc nl rt RX5 D cy z) (hP : WP D cy z σ τ o d H) {k : Nat} (hk : kd k = 4) (hdg : decode cc pc = .ok (.getfield 163, 3)) (kk : W p l e Rm s m args below meth c H locs cells slots Q (F0 m (pc + 3) ls (.int (σ k 6) :: rest))) : W p l e Rm s m args below meth c H locs cells slots Q (F0 m pc ls (.ref (z + k) :: rest)) :=
  g_getN C hP (ci := 4) (j := 6) (T := TX4) (R := RX4) (N := 12) (host := "QuadSnail") (by rw [hk]; decide) (ent_4 hk) rfl inWX4 (by decide) rfl (by decide +kernel) rfl hdg kk
theorem gf_X5_166 (C : Bd p s m args meth c cc nl rt RX5 D cy z) (hP : WP D cy z σ τ o d H) {k : Nat} (hk : kd k = 4) (hdg : decode cc pc = .ok (.getfield 166, 3)) (kk : W p l e Rm s m args below meth c H locs cells slots Q (F0 m (pc + 3) ls (.int (σ k 7) :: rest))) : W p l e Rm s m args below meth c H locs cells slots Q (F0 m pc ls (.ref (z + k) :: rest)) :=
  g_getN C hP (ci := 4) (j := 7) (T := TX4) (R := RX4) (N := 12) (host := "QuadSnail") (by rw [hk]; decide) (ent_4 hk) rfl inWX4 (by decide) rfl (by decide +kernel) rfl hdg kk
theorem gf_X5_175 (C : Bd p s m args meth c cc nl rt RX5 D cy z) (hP : WP D cy z σ τ o d H) {k : Nat} (hk : kd k = 4) (hdg : decode cc pc = .ok (.getfield 175, 3)) (kk : W p l e Rm s m args below meth c H locs cells slots Q (F0 m (pc + 3) ls (.int (σ k 3) :: rest))) : W p l e Rm s m args below meth c H locs cells slots Q (F0 m pc ls (.ref (z + k) :: rest)) :=
  g_getN C hP (ci := 4) (j := 3) (T := TX4) (R := RX4) (N := 12) (host := "QuadSnail") (by rw [hk]; decide) (ent_4 hk) rfl inWX4 (by decide) rfl (by decide +kernel) rfl hdg kk
theorem gf_X5_181 (C : Bd p s m args meth c cc nl rt RX5 D cy z) (hP : WP D cy z σ τ o d H) {k : Nat} (hk : kd k = 4) (hdg : decode cc pc = .ok (.getfield 181, 3)) (kk : W p l e Rm s m args below meth c H locs cells slots Q (F0 m (pc + 3) ls (.ref (z + (k + 1)) :: rest))) : W p l e Rm s m args below meth c H locs cells slots Q (F0 m pc ls (.ref (z + k) :: rest)) :=
  g_getN C hP (ci := 4) (j := 0) (T := TX4) (R := RX4) (N := 12) (host := "QuadSnail") (by rw [hk]; decide) (ent_4 hk) rfl inWX4 (by decide) rfl (by decide +kernel) rfl hdg kk
theorem gf_X5_185 (C : Bd p s m args meth c cc nl rt RX5 D cy z) (hP : WP D cy z σ τ o d H) {k : Nat} (hk : kd k = 1) (hdg : decode cc pc = .ok (.getfield 185, 3)) (kk : W p l e Rm s m args below meth c H locs cells slots Q (F0 m (pc + 3) ls (.int (σ k 2) :: rest))) : W p l e Rm s m args below meth c H locs cells slots Q (F0 m pc ls (.ref (z + k) :: rest)) :=
  g_getN C hP (ci := 1) (j := 2) (T := TX1) (R := RX1) (N := 3) (host := "QuadSnail") (by rw [hk]; decide) (ent_1 hk) rfl inWX1 (by decide) rfl (by decide +kernel) rfl hdg kk
theorem gf_X5_200 (C : Bd p s m args meth c cc nl rt RX5 D cy z) (hP : WP D cy z σ τ o d H) {k : Nat} (hk : kd k = 4) (hdg : decode cc pc = .ok (.getfield 200, 3)) (kk : W p l e Rm s m args below meth c H locs cells slots Q (F0 m (pc + 3) ls (.int (σ k 8) :: rest))) : W p l e Rm s m args below meth c H locs cells slots Q (F0 m pc ls (.ref (z + k) :: rest)) :=
  g_getN C hP (ci := 4) (j := 8) (T := TX4) (R := RX4) (N := 12) (host := "QuadSnail") (by rw [hk]; decide) (ent_4 hk) rfl inWX4 (by decide) rfl (by decide +kernel) rfl hdg kk
theorem gf_X5_203 (C : Bd p s m args meth c cc nl rt RX5 D cy z) (hP : WP D cy z σ τ o d H) {k : Nat} (hk : kd k = 4) (hdg : decode cc pc = .ok (.getfield 203, 3)) (kk : W p l e Rm s m args below meth c H locs cells slots Q (F0 m (pc + 3) ls (.int (σ k 9) :: rest))) : W p l e Rm s m args below meth c H locs cells slots Q (F0 m pc ls (.ref (z + k) :: rest)) :=
  g_getN C hP (ci := 4) (j := 9) (T := TX4) (R := RX4) (N := 12) (host := "QuadSnail") (by rw [hk]; decide) (ent_4 hk) rfl inWX4 (by decide) rfl (by decide +kernel) rfl hdg kk
theorem gf_X5_206 (C : Bd p s m args meth c cc nl rt RX5 D cy z) (hP : WP D cy z σ τ o d H) {k : Nat} (hk : kd k = 4) (hdg : decode cc pc = .ok (.getfield 206, 3)) (kk : W p l e Rm s m args below meth c H locs cells slots Q (F0 m (pc + 3) ls (.int (σ k 10) :: rest))) : W p l e Rm s m args below meth c H locs cells slots Q (F0 m pc ls (.ref (z + k) :: rest)) :=
  g_getN C hP (ci := 4) (j := 10) (T := TX4) (R := RX4) (N := 12) (host := "QuadSnail") (by rw [hk]; decide) (ent_4 hk) rfl inWX4 (by decide) rfl (by decide +kernel) rfl hdg kk
theorem gf_X5_209 (C : Bd p s m args meth c cc nl rt RX5 D cy z) (hP : WP D cy z σ τ o d H) {k : Nat} (hk : kd k = 4) (hdg : decode cc pc = .ok (.getfield 209, 3)) (kk : W p l e Rm s m args below meth c H locs cells slots Q (F0 m (pc + 3) ls (.int (σ k 11) :: rest))) : W p l e Rm s m args below meth c H locs cells slots Q (F0 m pc ls (.ref (z + k) :: rest)) :=
  g_getN C hP (ci := 4) (j := 11) (T := TX4) (R := RX4) (N := 12) (host := "QuadSnail") (by rw [hk]; decide) (ent_4 hk) rfl inWX4 (by decide) rfl (by decide +kernel) rfl hdg kk
theorem gf_X6_7 (C : Bd p s m args meth c cc nl rt RX6 D cy z) (hP : WP D cy z σ τ o d H) {k : Nat} (hk : kd k = 6) (hdg : decode cc pc = .ok (.getfield 7, 3)) (kk : W p l e Rm s m args below meth c H locs cells slots Q (F0 m (pc + 3) ls (.ref (z + (k + 1)) :: rest))) : W p l e Rm s m args below meth c H locs cells slots Q (F0 m pc ls (.ref (z + k) :: rest)) :=
  g_get C hP (ci := 6) (j := 0) (T := TX6) (R := RX6) (N := 12) (by rw [hk]; decide) (ent_6 hk) rfl inWX6 (by decide) rfl (mA4 (i := 3) rfl rfl) rfl hdg kk
theorem gf_X6_13 (C : Bd p s m args meth c cc nl rt RX6 D cy z) (hP : WP D cy z σ τ o d H) {k : Nat} (hk : kd k = 6) (hdg : decode cc pc = .ok (.getfield 13, 3)) (kk : W p l e Rm s m args below meth c H locs cells slots Q (F0 m (pc + 3) ls (.ref (z + (k + 2)) :: rest))) : W p l e Rm s m args below meth c H locs cells slots Q (F0 m pc ls (.ref (z + k) :: rest)) :=
  g_get C hP (ci := 6) (j := 1) (T := TX6) (R := RX6) (N := 12) (by rw [hk]; decide) (ent_6 hk) rfl inWX6 (by decide) rfl (mA4 (i := 4) rfl rfl) rfl hdg kk
theorem gf_X6_16 (C : Bd p s m args meth c cc nl rt RX6 D cy z) (hP : WP D cy z σ τ o d H) {k : Nat} (hk : kd k = 6) (hdg : decode cc pc = .ok (.getfield 16, 3)) (kk : W p l e Rm s m args below meth c H locs cells slots Q (F0 m (pc + 3) ls (.ref (z + (k + 3)) :: rest))) : W p l e Rm s m args below meth c H locs cells slots Q (F0 m pc ls (.ref (z + k) :: rest)) :=
  g_get C hP (ci := 6) (j := 3) (T := TX6) (R := RX6) (N := 12) (by rw [hk]; decide) (ent_6 hk) rfl inWX6 (by decide) rfl (mA4 (i := 6) rfl rfl) rfl hdg kk
theorem gf_X6_19 (C : Bd p s m args meth c cc nl rt RX6 D cy z) (hP : WP D cy z σ τ o d H) {k : Nat} (hk : kd k = 6) (hdg : decode cc pc = .ok (.getfield 19, 3)) (kk : W p l e Rm s m args below meth c H locs cells slots Q (F0 m (pc + 3) ls (.ref (z + (k + 4)) :: rest))) : W p l e Rm s m args below meth c H locs cells slots Q (F0 m pc ls (.ref (z + k) :: rest)) :=
  g_get C hP (ci := 6) (j := 5) (T := TX6) (R := RX6) (N := 12) (by rw [hk]; decide) (ent_6 hk) rfl inWX6 (by decide) rfl (mA4 (i := 8) rfl rfl) rfl hdg kk
theorem gf_X6_22 (C : Bd p s m args meth c cc nl rt RX6 D cy z) (hP : WP D cy z σ τ o d H) {k : Nat} (hk : kd k = 6) (hdg : decode cc pc = .ok (.getfield 22, 3)) (kk : W p l e Rm s m args below meth c H locs cells slots Q (F0 m (pc + 3) ls (.ref (z + (k + 5)) :: rest))) : W p l e Rm s m args below meth c H locs cells slots Q (F0 m pc ls (.ref (z + k) :: rest)) :=
  g_get C hP (ci := 6) (j := 6) (T := TX6) (R := RX6) (N := 12) (by rw [hk]; decide) (ent_6 hk) rfl inWX6 (by decide) rfl (mA4 (i := 9) rfl rfl) rfl hdg kk
theorem gf_X6_25 (C : Bd p s m args meth c cc nl rt RX6 D cy z) (hP : WP D cy z σ τ o d H) {k : Nat} (hk : kd k = 6) (hdg : decode cc pc = .ok (.getfield 25, 3)) (kk : W p l e Rm s m args below meth c H locs cells slots Q (F0 m (pc + 3) ls (.int (τ 0 8) :: rest))) : W p l e Rm s m args below meth c H locs cells slots Q (F0 m pc ls (.ref (z + k) :: rest)) :=
  g_get C hP (ci := 6) (j := 8) (T := TX6) (R := RX6) (N := 12) (by rw [hk]; decide) (ent_6 hk) rfl inWX6 (by decide) rfl (mA4 (i := 11) rfl rfl) rfl hdg kk
theorem pf_X6_25 (C : Bd p s m args meth c cc nl rt RX6 D cy z) (hP : WP D cy z σ τ o d H) (hS : va_S (fz z) s.heap H locs) {k : Nat} {v : Int32} (hk : kd k = 6) (hdg : decode cc pc = .ok (.putfield 25, 3)) (kk : ∀ (H1 : Heap) (locs1 : List Loc), WP D cy z σ (up τ 0 8 v) o d H1 → va_S (fz z) s.heap H1 locs1 → W p l e Rm s m args below meth c H1 locs1 cells slots Q (F0 m (pc + 3) ls rest)) : W p l e Rm s m args below meth c H locs cells slots Q (F0 m pc ls (.int v :: .ref (z + k) :: rest)) :=
  g_put C hP hS (σ' := σ) (τ' := (up τ 0 8 v)) (ci := 6) (j := 8) (T := TX6) (R := RX6) (N := 12) (ty := .int) (by rw [hk]; decide) (ent_6 hk) rfl inWX6 tyX6_ok nmX6 (by decide) rfl rfl (by decide +kernel) rfl rfl (mA4 (i := 11) rfl rfl) (Nat.le_of_ble_eq_true rfl) (by rw [ent_6 hk]; simp [up]) (fun i hi => ent_t0 hk hi) hdg kk
theorem gf_X6_33 (C : Bd p s m args meth c cc nl rt RX6 D cy z) (hP : WP D cy z σ τ o d H) {k : Nat} (hk : kd k = 6) (hdg : decode cc pc = .ok (.getfield 33, 3)) (kk : W p l e Rm s m args below meth c H locs cells slots Q (F0 m (pc + 3) ls (.int (τ 0 2) :: rest))) : W p l e Rm s m args below meth c H locs cells slots Q (F0 m pc ls (.ref (z + k) :: rest)) :=
  g_get C hP (ci := 6) (j := 2) (T := TX6) (R := RX6) (N := 12) (by rw [hk]; decide) (ent_6 hk) rfl inWX6 (by decide) rfl (mA4 (i := 5) rfl rfl) rfl hdg kk
theorem pf_X6_33 (C : Bd p s m args meth c cc nl rt RX6 D cy z) (hP : WP D cy z σ τ o d H) (hS : va_S (fz z) s.heap H locs) {k : Nat} {v : Int32} (hk : kd k = 6) (hdg : decode cc pc = .ok (.putfield 33, 3)) (kk : ∀ (H1 : Heap) (locs1 : List Loc), WP D cy z σ (up τ 0 2 v) o d H1 → va_S (fz z) s.heap H1 locs1 → W p l e Rm s m args below meth c H1 locs1 cells slots Q (F0 m (pc + 3) ls rest)) : W p l e Rm s m args below meth c H locs cells slots Q (F0 m pc ls (.int v :: .ref (z + k) :: rest)) :=
  g_put C hP hS (σ' := σ) (τ' := (up τ 0 2 v)) (ci := 6) (j := 2) (T := TX6) (R := RX6) (N := 12) (ty := .int) (by rw [hk]; decide) (ent_6 hk) rfl inWX6 tyX6_ok nmX6 (by decide) rfl rfl (by decide +kernel) rfl rfl (mA4 (i := 5) rfl rfl) (Nat.le_of_ble_eq_true rfl) (by rw [ent_6 hk]; simp [up]) (fun i hi => ent_t0 hk hi) hdg kk
theorem gf_X6_104 (C : Bd p s m args meth c cc nl rt RX6 D cy z) (hP : WP D cy z σ τ o d H) {k : Nat} (hk : kd k = 6) (hdg : decode cc pc = .ok (.getfield 104, 3)) (kk : W p l e Rm s m args below meth c H locs cells slots Q (F0 m (pc + 3) ls (.int (τ 0 7) :: rest))) : W p l e Rm s m args below meth c H locs cells slots Q (F0 m pc ls (.ref (z + k) :: rest)) :=
  g_get C hP (ci := 6) (j := 7) (T := TX6) (R := RX6) (N := 12) (by rw [hk]; decide) (ent_6 hk) rfl inWX6 (by decide) rfl (mA4 (i := 10) rfl rfl) rfl hdg kk
theorem pf_X6_104 (C : Bd p s m args meth c cc nl rt RX6 D cy z) (hP : WP D cy z σ τ o d H) (hS : va_S (fz z) s.heap H locs) {k : Nat} {v : Int32} (hk : kd k = 6) (hdg : decode cc pc = .ok (.putfield 104, 3)) (kk : ∀ (H1 : Heap) (locs1 : List Loc), WP D cy z σ (up τ 0 7 v) o d H1 → va_S (fz z) s.heap H1 locs1 → W p l e Rm s m args below meth c H1 locs1 cells slots Q (F0 m (pc + 3) ls rest)) : W p l e Rm s m args below meth c H locs cells slots Q (F0 m pc ls (.int v :: .ref (z + k) :: rest)) :=
  g_put C hP hS (σ' := σ) (τ' := (up τ 0 7 v)) (ci := 6) (j := 7) (T := TX6) (R := RX6) (N := 12) (ty := .int) (by rw [hk]; decide) (ent_6 hk) rfl inWX6 tyX6_ok nmX6 (by decide) rfl rfl (by decide +kernel) rfl rfl (mA4 (i := 10) rfl rfl) (Nat.le_of_ble_eq_true rfl) (by rw [ent_6 hk]; simp [up]) (fun i hi => ent_t0 hk hi) hdg kk
theorem gf_X6_107 (C : Bd p s m args meth c cc nl rt RX6 D cy z) (hP : WP D cy z σ τ o d H) {k : Nat} (hk : kd k = 6) (hdg : decode cc pc = .ok (.getfield 107, 3)) (kk : W p l e Rm s m args below meth c H locs cells slots Q (F0 m (pc + 3) ls (.int (τ 0 9) :: rest))) : W p l e Rm s m args below meth c H locs cells slots Q (F0 m pc ls (.ref (z + k) :: rest)) :=
  g_get C hP (ci := 6) (j := 9) (T := TX6) (R := RX6) (N := 12) (by rw [hk]; decide) (ent_6 hk) rfl inWX6 (by decide) rfl (mA4 (i := 12) rfl rfl) rfl hdg kk
theorem pf_X6_107 (C : Bd p s m args meth c cc nl rt RX6 D cy z) (hP : WP D cy z σ τ o d H) (hS : va_S (fz z) s.heap H locs) {k : Nat} {v : Int32} (hk : kd k = 6) (hdg : decode cc pc = .ok (.putfield 107, 3)) (kk : ∀ (H1 : Heap) (locs1 : List Loc), WP D cy z σ (up τ 0 9 v) o d H1 → va_S (fz z) s.heap H1 locs1 → W p l e Rm s m args below meth c H1 locs1 cells slots Q (F0 m (pc + 3) ls rest)) : W p l e Rm s m args below meth c H locs cells slots Q (F0 m pc ls (.int v :: .ref (z + k) :: rest)) :=
  g_put C hP hS (σ' := σ) (τ' := (up τ 0 9 v)) (ci := 6) (j := 9) (T := TX6) (R := RX6) (N := 12) (ty := .int) (by rw [hk]; decide) (ent_6 hk) rfl inWX6 tyX6_ok nmX6 (by decide) rfl rfl (by decide +kernel) rfl rfl (mA4 (i := 12) rfl rfl) (Nat.le_of_ble_eq_true rfl) (by rw [ent_6 hk]; simp [up]) (fun i hi => ent_t0 hk hi) hdg kk
theorem gf_X6_110 (C : Bd p s m args meth c cc nl rt RX6 D cy z) (hP : WP D cy z σ τ o d H) {k : Nat} (hk : kd k = 6) (hdg : decode cc pc = .ok (.getfield 110, 3)) (kk : W p l e Rm s m args below meth c H locs cells slots Q (F0 m (pc + 3) ls (.int (τ 0 10) :: rest))) : W p l e Rm s m args below meth c H locs cells slots Q (F0 m pc ls (.ref (z + k) :: rest)) :=
  g_get C hP (ci := 6) (j := 10) (T := TX6) (R := RX6) (N := 12) (by rw [hk]; decide) (ent_6 hk) rfl inWX6 (by decide) rfl (mA4 (i := 13) rfl rfl) rfl hdg kk
theorem pf_X6_110 (C : Bd p s m args meth c cc nl rt RX6 D cy z) (hP : WP D cy z σ τ o d H) (hS : va_S (fz z) s.heap H locs) {k : Nat} {v : Int32} (hk : kd k = 6) (hn : narrow .boolean (.int v) = .int v) (hf : fits .boolean (.int v) = true) (hdg : decode cc pc = .ok (.putfield 110, 3)) (kk : ∀ (H1 : Heap) (locs1 : List Loc), WP D cy z σ (up τ 0 10 v) o d H1 → va_S (fz z) s.heap H1 locs1 → W p l e Rm s m args below meth c H1 locs1 cells slots Q (F0 m (pc + 3) ls rest)) : W p l e Rm s m args below meth c H locs cells slots Q (F0 m pc ls (.int v :: .ref (z + k) :: rest)) :=
  g_put C hP hS (σ' := σ) (τ' := (up τ 0 10 v)) (ci := 6) (j := 10) (T := TX6) (R := RX6) (N := 12) (ty := .boolean) (by rw [hk]; decide) (ent_6 hk) rfl inWX6 tyX6_ok nmX6 (by decide) rfl rfl (by decide +kernel) hn hf (mA4 (i := 13) rfl rfl) (Nat.le_of_ble_eq_true rfl) (by rw [ent_6 hk]; simp [up]) (fun i hi => ent_t0 hk hi) hdg kk
theorem gf_X6_124 (C : Bd p s m args meth c cc nl rt RX6 D cy z) (hP : WP D cy z σ τ o d H) {k : Nat} (hk : kd k = 6) (hdg : decode cc pc = .ok (.getfield 124, 3)) (kk : W p l e Rm s m args below meth c H locs cells slots Q (F0 m (pc + 3) ls (.int (τ 0 11) :: rest))) : W p l e Rm s m args below meth c H locs cells slots Q (F0 m pc ls (.ref (z + k) :: rest)) :=
  g_get C hP (ci := 6) (j := 11) (T := TX6) (R := RX6) (N := 12) (by rw [hk]; decide) (ent_6 hk) rfl inWX6 (by decide) rfl (mA4 (i := 14) rfl rfl) rfl hdg kk
theorem pf_X6_124 (C : Bd p s m args meth c cc nl rt RX6 D cy z) (hP : WP D cy z σ τ o d H) (hS : va_S (fz z) s.heap H locs) {k : Nat} {v : Int32} (hk : kd k = 6) (hdg : decode cc pc = .ok (.putfield 124, 3)) (kk : ∀ (H1 : Heap) (locs1 : List Loc), WP D cy z σ (up τ 0 11 v) o d H1 → va_S (fz z) s.heap H1 locs1 → W p l e Rm s m args below meth c H1 locs1 cells slots Q (F0 m (pc + 3) ls rest)) : W p l e Rm s m args below meth c H locs cells slots Q (F0 m pc ls (.int v :: .ref (z + k) :: rest)) :=
  g_put C hP hS (σ' := σ) (τ' := (up τ 0 11 v)) (ci := 6) (j := 11) (T := TX6) (R := RX6) (N := 12) (ty := .int) (by rw [hk]; decide) (ent_6 hk) rfl inWX6 tyX6_ok nmX6 (by decide) rfl rfl (by decide +kernel) rfl rfl (mA4 (i := 14) rfl rfl) (Nat.le_of_ble_eq_true rfl) (by rw [ent_6 hk]; simp [up]) (fun i hi => ent_t0 hk hi) hdg kk
theorem gf_X6_138 (C : Bd p s m args meth c cc nl rt RX6 D cy z) (hP : WP D cy z σ τ o d H) {k : Nat} (hk : kd k = 6) (hdg : decode cc pc = .ok (.getfield 138, 3)) (kk : W p l e Rm s m args below meth c H locs cells slots Q (F0 m (pc + 3) ls (.int (τ 0 4) :: rest))) : W p l e Rm s m args below meth c H locs cells slots Q (F0 m pc ls (.ref (z + k) :: rest)) :=
  g_get C hP (ci := 6) (j := 4) (T := TX6) (R := RX6) (N := 12) (by rw [hk]; decide) (ent_6 hk) rfl inWX6 (by decide) rfl (mA4 (i := 7) rfl rfl) rfl hdg kk
theorem pf_X6_138 (C : Bd p s m args meth c cc nl rt RX6 D cy z) (hP : WP D cy z σ τ o d H) (hS : va_S (fz z) s.heap H locs) {k : Nat} {v : Int32} (hk : kd k = 6) (hn : narrow .boolean (.int v) = .int v) (hf : fits .boolean (.int v) = true) (hdg : decode cc pc = .ok (.putfield 138, 3)) (kk : ∀ (H1 : Heap) (locs1 : List Loc), WP D cy z σ (up τ 0 4 v) o d H1 → va_S (fz z) s.heap H1 locs1 → W p l e Rm s m args below meth c H1 locs1 cells slots Q (F0 m (pc + 3) ls rest)) : W p l e Rm s m args below meth c H locs cells slots Q (F0 m pc ls (.int v :: .ref (z + k) :: rest)) :=
  g_put C hP hS (σ' := σ) (τ' := (up τ 0 4 v)) (ci := 6) (j := 4) (T := TX6) (R := RX6) (N := 12) (ty := .boolean) (by rw [hk]; decide) (ent_6 hk) rfl inWX6 tyX6_ok nmX6 (by decide) rfl rfl (by decide +kernel) hn hf (mA4 (i := 7) rfl rfl) (Nat.le_of_ble_eq_true rfl) (by rw [ent_6 hk]; simp [up]) (fun i hi => ent_t0 hk hi) hdg kk
theorem al_7 {own : String} (C : Bd p s m args meth c cc nl rt own D cy z) (hP : WP D cy z σ τ o d H) {k : Nat} {i : Int32} (hk : kd k = 7) (hin : vp_in i 48) (hdg : decode cc pc = .ok (.iaload, 1)) (kk : W p l e Rm s m args below meth c H locs cells slots Q (F0 m (pc + 1) ls (.int (σ k i.toNatClampNeg) :: rest))) : W p l e Rm s m args below meth c H locs cells slots Q (F0 m pc ls (.int i :: .ref (z + k) :: rest)) :=
  g_iald C hP (n := 48) (f := σ k) (by rw [hk]; decide) (ent_7 hk) hin hdg kk
theorem as_7 {own : String} (C : Bd p s m args meth c cc nl rt own D cy z) (hP : WP D cy z σ τ o d H) (hS : va_S (fz z) s.heap H locs) {k : Nat} {i x : Int32} (hk : kd k = 7) (hin : vp_in i 48) (hdg : decode cc pc = .ok (.iastore, 1)) (kk : ∀ (H1 : Heap) (locs1 : List Loc), WP D cy z (up σ k i.toNatClampNeg x) τ o d H1 → va_S (fz z) s.heap H1 locs1 → W p l e Rm s m args below meth c H1 locs1 cells slots Q (F0 m (pc + 1) ls rest)) : W p l e Rm s m args below meth c H locs cells slots Q (F0 m pc ls (.int x :: .int i :: .ref (z + k) :: rest)) :=
  g_iast C hP hS (σ' := (up σ k i.toNatClampNeg x)) (τ' := τ) (n := 48) (f := σ k) (by rw [hk]; decide) (ent_7 hk) hin (by rw [ent_7 hk]; congr 4; funext q; simp [upd, up]) (fun i hi => (ent_up_ne hi).symm) hdg kk
theorem ln_7 {own : String} (C : Bd p s m args meth c cc nl rt own D cy z) (hP : WP D cy z σ τ o d H) {k : Nat} (hk : kd k = 7) (hdg : decode cc pc = .ok (.arraylength, 1)) (kk : W p l e Rm s m args below meth c H locs cells slots Q (F0 m (pc + 1) ls (.int 48 :: rest))) : W p l e Rm s m args below meth c H locs cells slots Q (F0 m pc ls (.ref (z + k) :: rest)) :=
  g_alen C hP (t0 := 0) (by rw [hk]; decide) (ent_7 hk) rfl rfl hdg kk
theorem al_8 {own : String} (C : Bd p s m args meth c cc nl rt own D cy z) (hP : WP D cy z σ τ o d H) {k : Nat} {i : Int32} (hk : kd k = 8) (hin : vp_in i 80) (hdg : decode cc pc = .ok (.caload, 1)) (kk : W p l e Rm s m args below meth c H locs cells slots Q (F0 m (pc + 1) ls (.int (chr (σ k i.toNatClampNeg)) :: rest))) : W p l e Rm s m args below meth c H locs cells slots Q (F0 m pc ls (.int i :: .ref (z + k) :: rest)) :=
  g_cald C hP (n := 80) (f := (fun i => chr (σ k i))) (by rw [hk]; decide) (ent_8 hk) hin hdg kk
theorem as_8 {own : String} (C : Bd p s m args meth c cc nl rt own D cy z) (hP : WP D cy z σ τ o d H) (hS : va_S (fz z) s.heap H locs) {k : Nat} {i x : Int32} (hk : kd k = 8) (hin : vp_in i 80) (hdg : decode cc pc = .ok (.castore, 1)) (kk : ∀ (H1 : Heap) (locs1 : List Loc), WP D cy z (up σ k i.toNatClampNeg x) τ o d H1 → va_S (fz z) s.heap H1 locs1 → W p l e Rm s m args below meth c H1 locs1 cells slots Q (F0 m (pc + 1) ls rest)) : W p l e Rm s m args below meth c H locs cells slots Q (F0 m pc ls (.int x :: .int i :: .ref (z + k) :: rest)) :=
  g_cast C hP hS (σ' := (up σ k i.toNatClampNeg x)) (τ' := τ) (n := 80) (f := (fun i => chr (σ k i))) (by rw [hk]; decide) (ent_8 hk) hin (by rw [ent_8 hk]; congr 4; funext q; by_cases hq : q = i.toNatClampNeg <;> simp [upd, up, hq, chr_nar]) (fun i hi => (ent_up_ne hi).symm) hdg kk
theorem ln_8 {own : String} (C : Bd p s m args meth c cc nl rt own D cy z) (hP : WP D cy z σ τ o d H) {k : Nat} (hk : kd k = 8) (hdg : decode cc pc = .ok (.arraylength, 1)) (kk : W p l e Rm s m args below meth c H locs cells slots Q (F0 m (pc + 1) ls (.int 80 :: rest))) : W p l e Rm s m args below meth c H locs cells slots Q (F0 m pc ls (.ref (z + k) :: rest)) :=
  g_alen C hP (t0 := 1) (by rw [hk]; decide) (ent_8 hk) rfl rfl hdg kk
theorem al_10 {own : String} (C : Bd p s m args meth c cc nl rt own D cy z) (hP : WP D cy z σ τ o d H) {k : Nat} {i : Int32} (hk : kd k = 10) (hin : vp_in i 230) (hdg : decode cc pc = .ok (.iaload, 1)) (kk : W p l e Rm s m args below meth c H locs cells slots Q (F0 m (pc + 1) ls (.int (τ 1 i.toNatClampNeg) :: rest))) : W p l e Rm s m args below meth c H locs cells slots Q (F0 m pc ls (.int i :: .ref (z + k) :: rest)) :=
  g_iald C hP (n := 230) (f := τ 1) (by rw [hk]; decide) (ent_10 hk) hin hdg kk
theorem as_10 {own : String} (C : Bd p s m args meth c cc nl rt own D cy z) (hP : WP D cy z σ τ o d H) (hS : va_S (fz z) s.heap H locs) {k : Nat} {i x : Int32} (hk : kd k = 10) (hin : vp_in i 230) (hdg : decode cc pc = .ok (.iastore, 1)) (kk : ∀ (H1 : Heap) (locs1 : List Loc), WP D cy z σ (up τ 1 i.toNatClampNeg x) o d H1 → va_S (fz z) s.heap H1 locs1 → W p l e Rm s m args below meth c H1 locs1 cells slots Q (F0 m (pc + 1) ls rest)) : W p l e Rm s m args below meth c H locs cells slots Q (F0 m pc ls (.int x :: .int i :: .ref (z + k) :: rest)) :=
  g_iast C hP hS (σ' := σ) (τ' := (up τ 1 i.toNatClampNeg x)) (n := 230) (f := τ 1) (by rw [hk]; decide) (ent_10 hk) hin (by rw [ent_10 hk]; congr 4; funext q; simp [upd, up]) (fun i hi => ent_t hk (by decide) hi) hdg kk
theorem ln_10 {own : String} (C : Bd p s m args meth c cc nl rt own D cy z) (hP : WP D cy z σ τ o d H) {k : Nat} (hk : kd k = 10) (hdg : decode cc pc = .ok (.arraylength, 1)) (kk : W p l e Rm s m args below meth c H locs cells slots Q (F0 m (pc + 1) ls (.int 230 :: rest))) : W p l e Rm s m args below meth c H locs cells slots Q (F0 m pc ls (.ref (z + k) :: rest)) :=
  g_alen C hP (t0 := 0) (by rw [hk]; decide) (ent_10 hk) rfl rfl hdg kk
theorem al_11 {own : String} (C : Bd p s m args meth c cc nl rt own D cy z) (hP : WP D cy z σ τ o d H) {k : Nat} {i : Int32} (hk : kd k = 11) (hin : vp_in i 920) (hdg : decode cc pc = .ok (.iaload, 1)) (kk : W p l e Rm s m args below meth c H locs cells slots Q (F0 m (pc + 1) ls (.int (τ 2 i.toNatClampNeg) :: rest))) : W p l e Rm s m args below meth c H locs cells slots Q (F0 m pc ls (.int i :: .ref (z + k) :: rest)) :=
  g_iald C hP (n := 920) (f := τ 2) (by rw [hk]; decide) (ent_11 hk) hin hdg kk
theorem as_11 {own : String} (C : Bd p s m args meth c cc nl rt own D cy z) (hP : WP D cy z σ τ o d H) (hS : va_S (fz z) s.heap H locs) {k : Nat} {i x : Int32} (hk : kd k = 11) (hin : vp_in i 920) (hdg : decode cc pc = .ok (.iastore, 1)) (kk : ∀ (H1 : Heap) (locs1 : List Loc), WP D cy z σ (up τ 2 i.toNatClampNeg x) o d H1 → va_S (fz z) s.heap H1 locs1 → W p l e Rm s m args below meth c H1 locs1 cells slots Q (F0 m (pc + 1) ls rest)) : W p l e Rm s m args below meth c H locs cells slots Q (F0 m pc ls (.int x :: .int i :: .ref (z + k) :: rest)) :=
  g_iast C hP hS (σ' := σ) (τ' := (up τ 2 i.toNatClampNeg x)) (n := 920) (f := τ 2) (by rw [hk]; decide) (ent_11 hk) hin (by rw [ent_11 hk]; congr 4; funext q; simp [upd, up]) (fun i hi => ent_t hk (by decide) hi) hdg kk
theorem ln_11 {own : String} (C : Bd p s m args meth c cc nl rt own D cy z) (hP : WP D cy z σ τ o d H) {k : Nat} (hk : kd k = 11) (hdg : decode cc pc = .ok (.arraylength, 1)) (kk : W p l e Rm s m args below meth c H locs cells slots Q (F0 m (pc + 1) ls (.int 920 :: rest))) : W p l e Rm s m args below meth c H locs cells slots Q (F0 m pc ls (.ref (z + k) :: rest)) :=
  g_alen C hP (t0 := 0) (by rw [hk]; decide) (ent_11 hk) rfl rfl hdg kk
theorem al_12 {own : String} (C : Bd p s m args meth c cc nl rt own D cy z) (hP : WP D cy z σ τ o d H) {k : Nat} {i : Int32} (hk : kd k = 12) (hin : vp_in i 230) (hdg : decode cc pc = .ok (.iaload, 1)) (kk : W p l e Rm s m args below meth c H locs cells slots Q (F0 m (pc + 1) ls (.int (τ 3 i.toNatClampNeg) :: rest))) : W p l e Rm s m args below meth c H locs cells slots Q (F0 m pc ls (.int i :: .ref (z + k) :: rest)) :=
  g_iald C hP (n := 230) (f := τ 3) (by rw [hk]; decide) (ent_12 hk) hin hdg kk
theorem as_12 {own : String} (C : Bd p s m args meth c cc nl rt own D cy z) (hP : WP D cy z σ τ o d H) (hS : va_S (fz z) s.heap H locs) {k : Nat} {i x : Int32} (hk : kd k = 12) (hin : vp_in i 230) (hdg : decode cc pc = .ok (.iastore, 1)) (kk : ∀ (H1 : Heap) (locs1 : List Loc), WP D cy z σ (up τ 3 i.toNatClampNeg x) o d H1 → va_S (fz z) s.heap H1 locs1 → W p l e Rm s m args below meth c H1 locs1 cells slots Q (F0 m (pc + 1) ls rest)) : W p l e Rm s m args below meth c H locs cells slots Q (F0 m pc ls (.int x :: .int i :: .ref (z + k) :: rest)) :=
  g_iast C hP hS (σ' := σ) (τ' := (up τ 3 i.toNatClampNeg x)) (n := 230) (f := τ 3) (by rw [hk]; decide) (ent_12 hk) hin (by rw [ent_12 hk]; congr 4; funext q; simp [upd, up]) (fun i hi => ent_t hk (by decide) hi) hdg kk
theorem ln_12 {own : String} (C : Bd p s m args meth c cc nl rt own D cy z) (hP : WP D cy z σ τ o d H) {k : Nat} (hk : kd k = 12) (hdg : decode cc pc = .ok (.arraylength, 1)) (kk : W p l e Rm s m args below meth c H locs cells slots Q (F0 m (pc + 1) ls (.int 230 :: rest))) : W p l e Rm s m args below meth c H locs cells slots Q (F0 m pc ls (.ref (z + k) :: rest)) :=
  g_alen C hP (t0 := 0) (by rw [hk]; decide) (ent_12 hk) rfl rfl hdg kk
theorem al_13 {own : String} (C : Bd p s m args meth c cc nl rt own D cy z) (hP : WP D cy z σ τ o d H) {k : Nat} {i : Int32} (hk : kd k = 13) (hin : vp_in i 230) (hdg : decode cc pc = .ok (.iaload, 1)) (kk : W p l e Rm s m args below meth c H locs cells slots Q (F0 m (pc + 1) ls (.int (τ 4 i.toNatClampNeg) :: rest))) : W p l e Rm s m args below meth c H locs cells slots Q (F0 m pc ls (.int i :: .ref (z + k) :: rest)) :=
  g_iald C hP (n := 230) (f := τ 4) (by rw [hk]; decide) (ent_13 hk) hin hdg kk
theorem as_13 {own : String} (C : Bd p s m args meth c cc nl rt own D cy z) (hP : WP D cy z σ τ o d H) (hS : va_S (fz z) s.heap H locs) {k : Nat} {i x : Int32} (hk : kd k = 13) (hin : vp_in i 230) (hdg : decode cc pc = .ok (.iastore, 1)) (kk : ∀ (H1 : Heap) (locs1 : List Loc), WP D cy z σ (up τ 4 i.toNatClampNeg x) o d H1 → va_S (fz z) s.heap H1 locs1 → W p l e Rm s m args below meth c H1 locs1 cells slots Q (F0 m (pc + 1) ls rest)) : W p l e Rm s m args below meth c H locs cells slots Q (F0 m pc ls (.int x :: .int i :: .ref (z + k) :: rest)) :=
  g_iast C hP hS (σ' := σ) (τ' := (up τ 4 i.toNatClampNeg x)) (n := 230) (f := τ 4) (by rw [hk]; decide) (ent_13 hk) hin (by rw [ent_13 hk]; congr 4; funext q; simp [upd, up]) (fun i hi => ent_t hk (by decide) hi) hdg kk
theorem ln_13 {own : String} (C : Bd p s m args meth c cc nl rt own D cy z) (hP : WP D cy z σ τ o d H) {k : Nat} (hk : kd k = 13) (hdg : decode cc pc = .ok (.arraylength, 1)) (kk : W p l e Rm s m args below meth c H locs cells slots Q (F0 m (pc + 1) ls (.int 230 :: rest))) : W p l e Rm s m args below meth c H locs cells slots Q (F0 m pc ls (.ref (z + k) :: rest)) :=
  g_alen C hP (t0 := 0) (by rw [hk]; decide) (ent_13 hk) rfl rfl hdg kk
theorem al_14 {own : String} (C : Bd p s m args meth c cc nl rt own D cy z) (hP : WP D cy z σ τ o d H) {k : Nat} {i : Int32} (hk : kd k = 14) (hin : vp_in i 80) (hdg : decode cc pc = .ok (.iaload, 1)) (kk : W p l e Rm s m args below meth c H locs cells slots Q (F0 m (pc + 1) ls (.int (τ 5 i.toNatClampNeg) :: rest))) : W p l e Rm s m args below meth c H locs cells slots Q (F0 m pc ls (.int i :: .ref (z + k) :: rest)) :=
  g_iald C hP (n := 80) (f := τ 5) (by rw [hk]; decide) (ent_14 hk) hin hdg kk
theorem as_14 {own : String} (C : Bd p s m args meth c cc nl rt own D cy z) (hP : WP D cy z σ τ o d H) (hS : va_S (fz z) s.heap H locs) {k : Nat} {i x : Int32} (hk : kd k = 14) (hin : vp_in i 80) (hdg : decode cc pc = .ok (.iastore, 1)) (kk : ∀ (H1 : Heap) (locs1 : List Loc), WP D cy z σ (up τ 5 i.toNatClampNeg x) o d H1 → va_S (fz z) s.heap H1 locs1 → W p l e Rm s m args below meth c H1 locs1 cells slots Q (F0 m (pc + 1) ls rest)) : W p l e Rm s m args below meth c H locs cells slots Q (F0 m pc ls (.int x :: .int i :: .ref (z + k) :: rest)) :=
  g_iast C hP hS (σ' := σ) (τ' := (up τ 5 i.toNatClampNeg x)) (n := 80) (f := τ 5) (by rw [hk]; decide) (ent_14 hk) hin (by rw [ent_14 hk]; congr 4; funext q; simp [upd, up]) (fun i hi => ent_t hk (by decide) hi) hdg kk
theorem ln_14 {own : String} (C : Bd p s m args meth c cc nl rt own D cy z) (hP : WP D cy z σ τ o d H) {k : Nat} (hk : kd k = 14) (hdg : decode cc pc = .ok (.arraylength, 1)) (kk : W p l e Rm s m args below meth c H locs cells slots Q (F0 m (pc + 1) ls (.int 80 :: rest))) : W p l e Rm s m args below meth c H locs cells slots Q (F0 m pc ls (.ref (z + k) :: rest)) :=
  g_alen C hP (t0 := 0) (by rw [hk]; decide) (ent_14 hk) rfl rfl hdg kk
theorem g_abs {own : String} (C : Bd p s m args meth c cc nl rt own D cy z) {idx : Nat} (ml : Cond.methodLink own idx Lib.Math.abs.name ∈ WA) (hf : 1 ≤ Rm.frames) (hlo : (rest.map fun v => v.category).sum + 13 ≤ Rm.locals) (hcs : cells ≤ Rm.cells ∧ slots ≤ Rm.slots) (hsz : ls.size = nl) {x : Int32} (hdg : decode cc pc = .ok (.invokestatic idx, 3))
    (kk : W p l e Rm s m args below meth c H locs cells slots Q (F0 m (pc + 3) ls (.int (ab x) :: rest))) : W p l e Rm s m args below meth c H locs cells slots Q (F0 m pc ls (.int x :: rest)) := by
  obtain ⟨hx, hb, hr, hml, hown, hW, hlocks, hAm⟩ := C
  exact va_mabs hx hb (by rw [hml, hsz]) hown (hW _ ml) (hW _ (mA2 (i := 129) rfl rfl)) (hW _ (mA1 (i := 13) rfl rfl)) (hW _ (mA2 (i := 130) rfl rfl)) hf hlo hcs.1 hcs.2 hdg kk
end Fields
end
section
theorem cw_J9_floorDiv_7cf53 : cwSt yJ9_floorDiv_7cf53 cJ9_floorDiv_7cf53 3 (some .int) 2 := ⟨(mA3 (i := 148) rfl rfl), (mA1 (i := 13) rfl rfl), (mA3 (i := 149) rfl rfl), by decide +kernel⟩
abbrev rm_J9_floorDiv_7cf53 : Room := { frames := 0, cells := 0, slots := 0, locals := 0 }
def f_J9_floorDiv_7cf53  (x : Int32) (y : Int32) : Int32 :=
  if 0 ≤ (x ^^^ y) then
    x / y
  else
    if ((x / y) * y) = x then
      x / y
    else
      (x / y) - 1
set_option maxHeartbeats 4000000 in
set_option maxRecDepth 100000 in
theorem k_J9_floorDiv_7cf53 (l : Launch) (D : va_G) (cy : Nat → ClassId) (z : Nat) (o : Int64) (d : UInt64) (σ τ : Sg) (x : Int32) (y : Int32) (hne : ¬ y = 0) : KI l yJ9_floorDiv_7cf53 cJ9_floorDiv_7cf53 3 (some .int) rm_J9_floorDiv_7cf53 D cy z [.int x, .int y] o d σ τ (f_J9_floorDiv_7cf53 x y) σ τ := by
  refine met_of RJ9 (by decide +kernel) rfl (Nat.le_of_ble_eq_true rfl) ?_
  intro p e s m args below meth c C hP hS ls hl
  obtain ⟨hx, hb, hr, hml, hown, hW, hlocks, hAm⟩ := id C
  have hl : lv_has ls 3 [(0, .int x), (1, .int y)] := hl
  refine lv_iload_n hx hb dJ9_floorDiv_7cf53_0 rfl (lv_at hl 0 rfl) ?_
  refine lv_iload_n hx hb dJ9_floorDiv_7cf53_1 rfl (lv_at hl 1 rfl) ?_
  refine lv_idiv hx hb dJ9_floorDiv_7cf53_2 hne ?_
  refine lv_istore_n (lv' := [(2, .int (x / y)), (0, .int x), (1, .int y)]) hx hb dJ9_floorDiv_7cf53_3 rfl hl (by decide) rfl (fun ls hl => ?_)
  refine lv_iload_n hx hb dJ9_floorDiv_7cf53_4 rfl (lv_at hl 1 rfl) ?_
  refine lv_iload_n hx hb dJ9_floorDiv_7cf53_5 rfl (lv_at hl 2 rfl) ?_
  refine lv_ixor hx hb dJ9_floorDiv_7cf53_6 ?_
  refine lv_if_ge (tgt := 21) hx hb dJ9_floorDiv_7cf53_7 (by decide) (fun c_7 => ?_) (fun c_7 => ?_)
  · refine lv_iload_n hx hb dJ9_floorDiv_7cf53_21 rfl (lv_at hl 0 rfl) ?_
    exact ret_I C hP hS (nar_i _) rfl (by unfold f_J9_floorDiv_7cf53; rw [if_pos c_7]) rfl rfl dJ9_floorDiv_7cf53_22
  · refine lv_iload_n hx hb dJ9_floorDiv_7cf53_10 rfl (lv_at hl 0 rfl) ?_
    refine lv_iload_n hx hb dJ9_floorDiv_7cf53_11 rfl (lv_at hl 2 rfl) ?_
    refine lv_imul hx hb dJ9_floorDiv_7cf53_12 ?_
    refine lv_iload_n hx hb dJ9_floorDiv_7cf53_13 rfl (lv_at hl 1 rfl) ?_
    refine lv_icmp_eq (tgt := 21) hx hb dJ9_floorDiv_7cf53_14 (by decide) (fun c_14 => ?_) (fun c_14 => ?_)
    · refine lv_iload_n hx hb dJ9_floorDiv_7cf53_21 rfl (lv_at hl 0 rfl) ?_
      exact ret_I C hP hS (nar_i _) rfl (by unfold f_J9_floorDiv_7cf53; rw [if_neg c_7, if_pos c_14]) rfl rfl dJ9_floorDiv_7cf53_22
    · refine lv_iload_n hx hb dJ9_floorDiv_7cf53_17 rfl (lv_at hl 0 rfl) ?_
      refine lv_iconst (v := 1) hx hb dJ9_floorDiv_7cf53_18 (by decide) ?_
      refine lv_isub hx hb dJ9_floorDiv_7cf53_19 ?_
      exact ret_I C hP hS (nar_i _) rfl (by unfold f_J9_floorDiv_7cf53; rw [if_neg c_7, if_neg c_14]) rfl rfl dJ9_floorDiv_7cf53_20

theorem cw_J9_floorMod_7cf53 : cwSt yJ9_floorMod_7cf53 cJ9_floorMod_7cf53 3 (some .int) 2 := ⟨(mA2 (i := 214) rfl rfl), (mA1 (i := 13) rfl rfl), (mA2 (i := 215) rfl rfl), by decide +kernel⟩
abbrev rm_J9_floorMod_7cf53 : Room := { frames := 0, cells := 0, slots := 0, locals := 0 }
def f_J9_floorMod_7cf53  (x : Int32) (y : Int32) : Int32 :=
  if 0 ≤ (x ^^^ y) then
    x - x / y * y
  else
    if (x - x / y * y) = 0 then
      x - x / y * y
    else
      (x - x / y * y) + y
set_option maxHeartbeats 4000000 in
set_option maxRecDepth 100000 in
theorem k_J9_floorMod_7cf53 (l : Launch) (D : va_G) (cy : Nat → ClassId) (z : Nat) (o : Int64) (d : UInt64) (σ τ : Sg) (x : Int32) (y : Int32) (hne : ¬ y = 0) : KI l yJ9_floorMod_7cf53 cJ9_floorMod_7cf53 3 (some .int) rm_J9_floorMod_7cf53 D cy z [.int x, .int y] o d σ τ (f_J9_floorMod_7cf53 x y) σ τ := by
  refine met_of RJ9 (by decide +kernel) rfl (Nat.le_of_ble_eq_true rfl) ?_
  intro p e s m args below meth c C hP hS ls hl
  obtain ⟨hx, hb, hr, hml, hown, hW, hlocks, hAm⟩ := id C
  have hl : lv_has ls 3 [(0, .int x), (1, .int y)] := hl
  refine lv_iload_n hx hb dJ9_floorMod_7cf53_0 rfl (lv_at hl 0 rfl) ?_
  refine lv_iload_n hx hb dJ9_floorMod_7cf53_1 rfl (lv_at hl 1 rfl) ?_
  refine lv_irem hx hb dJ9_floorMod_7cf53_2 hne ?_
  refine lv_istore_n (lv' := [(2, .int (x - x / y * y)), (0, .int x), (1, .int y)]) hx hb dJ9_floorMod_7cf53_3 rfl hl (by decide) rfl (fun ls hl => ?_)
  refine lv_iload_n hx hb dJ9_floorMod_7cf53_4 rfl (lv_at hl 1 rfl) ?_
  refine lv_iload_n hx hb dJ9_floorMod_7cf53_5 rfl (lv_at hl 2 rfl) ?_
  refine lv_ixor hx hb dJ9_floorMod_7cf53_6 ?_
  refine lv_if_ge (tgt := 18) hx hb dJ9_floorMod_7cf53_7 (by decide) (fun c_7 => ?_) (fun c_7 => ?_)
  · refine lv_iload_n hx hb dJ9_floorMod_7cf53_18 rfl (lv_at hl 0 rfl) ?_
    exact ret_I C hP hS (nar_i _) rfl (by unfold f_J9_floorMod_7cf53; rw [if_pos c_7]) rfl rfl dJ9_floorMod_7cf53_19
  · refine lv_iload_n hx hb dJ9_floorMod_7cf53_10 rfl (lv_at hl 0 rfl) ?_
    refine lv_if_eq (tgt := 18) hx hb dJ9_floorMod_7cf53_11 (by decide) (fun c_11 => ?_) (fun c_11 => ?_)
    · refine lv_iload_n hx hb dJ9_floorMod_7cf53_18 rfl (lv_at hl 0 rfl) ?_
      exact ret_I C hP hS (nar_i _) rfl (by unfold f_J9_floorMod_7cf53; rw [if_neg c_7, if_pos c_11]) rfl rfl dJ9_floorMod_7cf53_19
    · refine lv_iload_n hx hb dJ9_floorMod_7cf53_14 rfl (lv_at hl 0 rfl) ?_
      refine lv_iload_n hx hb dJ9_floorMod_7cf53_15 rfl (lv_at hl 2 rfl) ?_
      refine lv_iadd hx hb dJ9_floorMod_7cf53_16 ?_
      exact ret_I C hP hS (nar_i _) rfl (by unfold f_J9_floorMod_7cf53; rw [if_neg c_7, if_neg c_11]) rfl rfl dJ9_floorMod_7cf53_17

theorem cw_X1_rowOf : cwVt yX1_rowOf cX1_rowOf 2 (some .int) 1 1 := ⟨(mA2 (i := 174) rfl rfl), (mA0 (i := 3) rfl rfl), (mA1 (i := 4) rfl rfl), (mA2 (i := 175) rfl rfl), by decide +kernel, ⟨_, rfl, rfl⟩, by decide⟩
abbrev rm_X1_rowOf : Room := { frames := 0, cells := 0, slots := 0, locals := 0 }
def f_X1_rowOf (σ : Sg) (k : Nat) (x : Int32) : Int32 :=
  (((σ k 1) + x) - ((σ k 1) + x) / 16 * 16) * 3
set_option maxHeartbeats 4000000 in
set_option maxRecDepth 100000 in
theorem k_X1_rowOf (l : Launch) (D : va_G) (cy : Nat → ClassId) (z : Nat) (o : Int64) (d : UInt64) (σ τ : Sg) {k : Nat} (hk : kd k = 1) (x : Int32) : KI l yX1_rowOf cX1_rowOf 2 (some .int) rm_X1_rowOf D cy z [.ref (z + k), .int x] o d σ τ (f_X1_rowOf σ k x) σ τ := by
  refine met_of RX1 (plainFor_of_name (by decide)) rfl (Nat.le_of_ble_eq_true rfl) ?_
  intro p e s m args below meth c C hP hS ls hl
  obtain ⟨hx, hb, hr, hml, hown, hW, hlocks, hAm⟩ := id C
  have hl : lv_has ls 2 [(0, .ref (z + k)), (1, .int x)] := hl
  refine lv_aload_n hx hb dX1_rowOf_0 rfl (lv_at hl 0 rfl) ?_
  refine gf_X1_19 C hP hk dX1_rowOf_1 ?_
  refine lv_iload_n hx hb dX1_rowOf_4 rfl (lv_at hl 1 rfl) ?_
  refine lv_iadd hx hb dX1_rowOf_5 ?_
  refine lv_bipush (v := 16) hx hb dX1_rowOf_6 (by decide) ?_
  refine lv_irem hx hb dX1_rowOf_8 (by decide) ?_
  refine lv_iconst (v := 3) hx hb dX1_rowOf_9 (by decide) ?_
  refine lv_imul hx hb dX1_rowOf_10 ?_
  exact ret_I C hP hS (nar_i _) rfl rfl rfl rfl dX1_rowOf_11

theorem cw_X1_read : cwVt yX1_read cX1_read 4 (some .int) 1 2 := ⟨(mA2 (i := 234) rfl rfl), (mA0 (i := 7) rfl rfl), (mA1 (i := 4) rfl rfl), (mA2 (i := 235) rfl rfl), by decide +kernel, ⟨_, rfl, rfl⟩, by decide⟩
abbrev rm_X1_read : Room := { frames := 1, cells := 0, slots := 0, locals := 21 }
def f_X1_read (σ : Sg) (k : Nat) (x : Int32) (y : Int32) : Int32 :=
  if ((f_X1_rowOf σ k x) + y) < 0 then
    0
  else
    if ((f_X1_rowOf σ k x) + y) < 48 then
      σ (k + 1) (((f_X1_rowOf σ k x) + y).toNatClampNeg)
    else
      0
set_option maxHeartbeats 4000000 in
set_option maxRecDepth 100000 in
theorem k_X1_read (l : Launch) (D : va_G) (cy : Nat → ClassId) (z : Nat) (o : Int64) (d : UInt64) (σ τ : Sg) {k : Nat} (hk : kd k = 1) (x : Int32) (y : Int32) : KI l yX1_read cX1_read 4 (some .int) rm_X1_read D cy z [.ref (z + k), .int x, .int y] o d σ τ (f_X1_read σ k x y) σ τ := by
  refine met_of RX1 (plainFor_of_name (by decide)) rfl (Nat.le_of_ble_eq_true rfl) ?_
  intro p e s m args below meth c C hP hS ls hl
  obtain ⟨hx, hb, hr, hml, hown, hW, hlocks, hAm⟩ := id C
  have hl : lv_has ls 4 [(0, .ref (z + k)), (1, .int x), (2, .int y)] := hl
  refine lv_aload_n hx hb dX1_read_0 rfl (lv_at hl 0 rfl) ?_
  refine lv_iload_n hx hb dX1_read_1 rfl (lv_at hl 1 rfl) ?_
  refine thn_I (run_V (As := [.int x]) (rest := []) C (k_X1_rowOf l D cy z o d σ τ hk x) hP hS cw_X1_rowOf (mA2 (i := 172) rfl rfl) hk ⟨rfl, rfl⟩ ⟨Nat.le_of_ble_eq_true rfl, Nat.le_of_ble_eq_true rfl⟩ rfl (Nat.le_of_ble_eq_true rfl) hl.1 ⟨Nat.zero_le _, Nat.zero_le _⟩ dX1_read_2) hS (fun H locs hP hS => ?_)
  refine lv_iload_n hx hb dX1_read_5 rfl (lv_at hl 2 rfl) ?_
  refine lv_iadd hx hb dX1_read_6 ?_
  refine lv_istore_n (lv' := [(3, .int ((f_X1_rowOf σ k x) + y)), (0, .ref (z + k)), (1, .int x), (2, .int y)]) hx hb dX1_read_7 rfl hl (by decide) rfl (fun ls hl => ?_)
  refine lv_iload_n hx hb dX1_read_8 rfl (lv_at hl 0 rfl) ?_
  refine lv_if_lt (tgt := 21) hx hb dX1_read_9 (by decide) (fun c_9 => ?_) (fun c_9 => ?_)
  · refine lv_iconst (v := 0) hx hb dX1_read_21 (by decide) ?_
    refine lv_goto (tgt := 31) hx hb dX1_read_22 (by decide) ?_
    exact ret_I C hP hS (nar_i _) rfl (by unfold f_X1_read; rw [if_pos c_9]) rfl rfl dX1_read_31
  · refine lv_iload_n hx hb dX1_read_12 rfl (lv_at hl 0 rfl) ?_
    refine lv_aload_n hx hb dX1_read_13 rfl (lv_at hl 1 rfl) ?_
    refine gf_X1_11 C hP hk dX1_read_14 ?_
    refine ln_7 C hP (kd1_1 hk) dX1_read_17 ?_
    refine lv_icmp_lt (tgt := 25) hx hb dX1_read_18 (by decide) (fun c_18 => ?_) (fun c_18 => ?_)
    · refine lv_aload_n hx hb dX1_read_25 rfl (lv_at hl 1 rfl) ?_
      refine gf_X1_11 C hP hk dX1_read_26 ?_
      refine lv_iload_n hx hb dX1_read_29 rfl (lv_at hl 0 rfl) ?_
      refine al_7 C hP (kd1_1 hk) (vpin_of' c_9 c_18 (by decide)) dX1_read_30 ?_
      exact ret_I C hP hS (nar_i _) rfl (by unfold f_X1_read; rw [if_neg c_9, if_pos c_18]) rfl rfl dX1_read_31
    · refine lv_iconst (v := 0) hx hb dX1_read_21 (by decide) ?_
      refine lv_goto (tgt := 31) hx hb dX1_read_22 (by decide) ?_
      exact ret_I C hP hS (nar_i _) rfl (by unfold f_X1_read; rw [if_neg c_9, if_neg c_18]) rfl rfl dX1_read_31

theorem cw_X1_step : cwVt yX1_step cX1_step 2 (some .int) 1 1 := ⟨(mA2 (i := 237) rfl rfl), (mA2 (i := 238) rfl rfl), (mA1 (i := 4) rfl rfl), (mA2 (i := 239) rfl rfl), by decide +kernel, ⟨_, rfl, rfl⟩, by decide⟩
abbrev rm_X1_step : Room := { frames := 2, cells := 0, slots := 0, locals := 44 }
def f_X1_step (σ : Sg) (k : Nat) (x : Int32) : Int32 :=
  f_X1_read σ k x 0
set_option maxHeartbeats 4000000 in
set_option maxRecDepth 100000 in
theorem k_X1_step (l : Launch) (D : va_G) (cy : Nat → ClassId) (z : Nat) (o : Int64) (d : UInt64) (σ τ : Sg) {k : Nat} (hk : kd k = 1) (x : Int32) : KI l yX1_step cX1_step 2 (some .int) rm_X1_step D cy z [.ref (z + k), .int x] o d σ τ (f_X1_step σ k x) σ τ := by
  refine met_of RX1 (plainFor_of_name (by decide)) rfl (Nat.le_of_ble_eq_true rfl) ?_
  intro p e s m args below meth c C hP hS ls hl
  obtain ⟨hx, hb, hr, hml, hown, hW, hlocks, hAm⟩ := id C
  have hl : lv_has ls 2 [(0, .ref (z + k)), (1, .int x)] := hl
  refine lv_aload_n hx hb dX1_step_0 rfl (lv_at hl 0 rfl) ?_
  refine lv_iload_n hx hb dX1_step_1 rfl (lv_at hl 1 rfl) ?_
  refine lv_iconst (v := 0) hx hb dX1_step_2 (by decide) ?_
  refine thn_I (run_V (As := [.int x, .int 0]) (rest := []) C (k_X1_read l D cy z o d σ τ hk x 0) hP hS cw_X1_read (mA2 (i := 232) rfl rfl) hk ⟨rfl, rfl⟩ ⟨Nat.le_of_ble_eq_true rfl, Nat.le_of_ble_eq_true rfl⟩ rfl (Nat.le_of_ble_eq_true rfl) hl.1 ⟨Nat.zero_le _, Nat.zero_le _⟩ dX1_step_3) hS (fun H locs hP hS => ?_)
  exact ret_I C hP hS (nar_i _) rfl rfl rfl rfl dX1_step_6

theorem cw_X1_spent : cwVt yX1_spent cX1_spent 2 (some .int) 1 1 := ⟨(mA2 (i := 229) rfl rfl), (mA2 (i := 230) rfl rfl), (mA1 (i := 4) rfl rfl), (mA2 (i := 231) rfl rfl), by decide +kernel, ⟨_, rfl, rfl⟩, by decide⟩
abbrev rm_X1_spent : Room := { frames := 2, cells := 0, slots := 0, locals := 44 }
def f_X1_spent (σ : Sg) (k : Nat) (x : Int32) : Int32 :=
  f_X1_read σ k x 1
set_option maxHeartbeats 4000000 in
set_option maxRecDepth 100000 in
theorem k_X1_spent (l : Launch) (D : va_G) (cy : Nat → ClassId) (z : Nat) (o : Int64) (d : UInt64) (σ τ : Sg) {k : Nat} (hk : kd k = 1) (x : Int32) : KI l yX1_spent cX1_spent 2 (some .int) rm_X1_spent D cy z [.ref (z + k), .int x] o d σ τ (f_X1_spent σ k x) σ τ := by
  refine met_of RX1 (plainFor_of_name (by decide)) rfl (Nat.le_of_ble_eq_true rfl) ?_
  intro p e s m args below meth c C hP hS ls hl
  obtain ⟨hx, hb, hr, hml, hown, hW, hlocks, hAm⟩ := id C
  have hl : lv_has ls 2 [(0, .ref (z + k)), (1, .int x)] := hl
  refine lv_aload_n hx hb dX1_spent_0 rfl (lv_at hl 0 rfl) ?_
  refine lv_iload_n hx hb dX1_spent_1 rfl (lv_at hl 1 rfl) ?_
  refine lv_iconst (v := 1) hx hb dX1_spent_2 (by decide) ?_
  refine thn_I (run_V (As := [.int x, .int 1]) (rest := []) C (k_X1_read l D cy z o d σ τ hk x 1) hP hS cw_X1_read (mA2 (i := 232) rfl rfl) hk ⟨rfl, rfl⟩ ⟨Nat.le_of_ble_eq_true rfl, Nat.le_of_ble_eq_true rfl⟩ rfl (Nat.le_of_ble_eq_true rfl) hl.1 ⟨Nat.zero_le _, Nat.zero_le _⟩ dX1_spent_3) hS (fun H locs hP hS => ?_)
  exact ret_I C hP hS (nar_i _) rfl rfl rfl rfl dX1_spent_6

theorem cw_X1_before : cwVt yX1_before cX1_before 2 (some .int) 1 1 := ⟨(mA3 (i := 7) rfl rfl), (mA3 (i := 8) rfl rfl), (mA1 (i := 4) rfl rfl), (mA3 (i := 9) rfl rfl), by decide +kernel, ⟨_, rfl, rfl⟩, by decide⟩
abbrev rm_X1_before : Room := { frames := 2, cells := 0, slots := 0, locals := 44 }
def f_X1_before (σ : Sg) (k : Nat) (x : Int32) : Int32 :=
  f_X1_read σ k x 2
set_option maxHeartbeats 4000000 in
set_option maxRecDepth 100000 in
theorem k_X1_before (l : Launch) (D : va_G) (cy : Nat → ClassId) (z : Nat) (o : Int64) (d : UInt64) (σ τ : Sg) {k : Nat} (hk : kd k = 1) (x : Int32) : KI l yX1_before cX1_before 2 (some .int) rm_X1_before D cy z [.ref (z + k), .int x] o d σ τ (f_X1_before σ k x) σ τ := by
  refine met_of RX1 (plainFor_of_name (by decide)) rfl (Nat.le_of_ble_eq_true rfl) ?_
  intro p e s m args below meth c C hP hS ls hl
  obtain ⟨hx, hb, hr, hml, hown, hW, hlocks, hAm⟩ := id C
  have hl : lv_has ls 2 [(0, .ref (z + k)), (1, .int x)] := hl
  refine lv_aload_n hx hb dX1_before_0 rfl (lv_at hl 0 rfl) ?_
  refine lv_iload_n hx hb dX1_before_1 rfl (lv_at hl 1 rfl) ?_
  refine lv_iconst (v := 2) hx hb dX1_before_2 (by decide) ?_
  refine thn_I (run_V (As := [.int x, .int 2]) (rest := []) C (k_X1_read l D cy z o d σ τ hk x 2) hP hS cw_X1_read (mA2 (i := 232) rfl rfl) hk ⟨rfl, rfl⟩ ⟨Nat.le_of_ble_eq_true rfl, Nat.le_of_ble_eq_true rfl⟩ rfl (Nat.le_of_ble_eq_true rfl) hl.1 ⟨Nat.zero_le _, Nat.zero_le _⟩ dX1_before_3) hS (fun H locs hP hS => ?_)
  exact ret_I C hP hS (nar_i _) rfl rfl rfl rfl dX1_before_6

theorem cw_X1_write : cwVt yX1_write cX1_write 3 none 1 2 := ⟨(mA2 (i := 178) rfl rfl), (mA0 (i := 4) rfl rfl), (mA1 (i := 4) rfl rfl), (mA2 (i := 179) rfl rfl), by decide +kernel, ⟨_, rfl, rfl⟩, by decide⟩
abbrev rm_X1_write : Room := { frames := 0, cells := 0, slots := 0, locals := 0 }
def s_X1_write (σ : Sg) (k : Nat) (x : Int32) (y : Int32) : Sg :=
  if x < 0 then
    σ
  else
    if 48 ≤ x then
      σ
    else
      up σ (k + 1) (x.toNatClampNeg) y
set_option maxHeartbeats 4000000 in
set_option maxRecDepth 100000 in
theorem k_X1_write (l : Launch) (D : va_G) (cy : Nat → ClassId) (z : Nat) (o : Int64) (d : UInt64) (σ τ : Sg) {k : Nat} (hk : kd k = 1) (x : Int32) (y : Int32) : KV l yX1_write cX1_write 3 rm_X1_write D cy z [.ref (z + k), .int x, .int y] o d σ τ (s_X1_write σ k x y) τ := by
  refine met_of RX1 (plainFor_of_name (by decide)) rfl (Nat.le_of_ble_eq_true rfl) ?_
  intro p e s m args below meth c C hP hS ls hl
  obtain ⟨hx, hb, hr, hml, hown, hW, hlocks, hAm⟩ := id C
  have hl : lv_has ls 3 [(0, .ref (z + k)), (1, .int x), (2, .int y)] := hl
  refine lv_iload_n hx hb dX1_write_0 rfl (lv_at hl 1 rfl) ?_
  refine lv_if_lt (tgt := 20) hx hb dX1_write_1 (by decide) (fun c_1 => ?_) (fun c_1 => ?_)
  · exact ret_V C hP hS (by unfold s_X1_write; rw [if_pos c_1]) rfl dX1_write_20
  · refine lv_iload_n hx hb dX1_write_4 rfl (lv_at hl 1 rfl) ?_
    refine lv_aload_n hx hb dX1_write_5 rfl (lv_at hl 0 rfl) ?_
    refine gf_X1_11 C hP hk dX1_write_6 ?_
    refine ln_7 C hP (kd1_1 hk) dX1_write_9 ?_
    refine lv_icmp_ge (tgt := 20) hx hb dX1_write_10 (by decide) (fun c_10 => ?_) (fun c_10 => ?_)
    · exact ret_V C hP hS (by unfold s_X1_write; rw [if_neg c_1, if_pos c_10]) rfl dX1_write_20
    · refine lv_aload_n hx hb dX1_write_13 rfl (lv_at hl 0 rfl) ?_
      refine gf_X1_11 C hP hk dX1_write_14 ?_
      refine lv_iload_n hx hb dX1_write_17 rfl (lv_at hl 1 rfl) ?_
      refine lv_iload_n hx hb dX1_write_18 rfl (lv_at hl 2 rfl) ?_
      refine as_7 C hP hS (kd1_1 hk) (vpin_of c_1 c_10 (by decide)) dX1_write_19 (fun H locs hP hS => ?_)
      exact ret_V C hP hS (by unfold s_X1_write; rw [if_neg c_1, if_neg c_10]) rfl dX1_write_20

theorem cw_X1_add : cwVt yX1_add cX1_add 5 none 1 3 := ⟨(mA2 (i := 169) rfl rfl), (mA2 (i := 170) rfl rfl), (mA1 (i := 4) rfl rfl), (mA2 (i := 171) rfl rfl), by decide +kernel, ⟨_, rfl, rfl⟩, by decide⟩
abbrev rm_X1_add : Room := { frames := 1, cells := 0, slots := 0, locals := 22 }
def s_X1_add (σ : Sg) (k : Nat) (x : Int32) (y : Int32) (w : Int32) : Sg :=
  if 16 ≤ (σ k 2) then
    s_X1_write (s_X1_write (s_X1_write (up σ k 1 (((σ k 1) + 1) - ((σ k 1) + 1) / 16 * 16)) k ((f_X1_rowOf (up σ k 1 (((σ k 1) + 1) - ((σ k 1) + 1) / 16 * 16)) k (((up σ k 1 (((σ k 1) + 1) - ((σ k 1) + 1) / 16 * 16)) k 2) - 1)) + 0) x) k ((f_X1_rowOf (up σ k 1 (((σ k 1) + 1) - ((σ k 1) + 1) / 16 * 16)) k (((up σ k 1 (((σ k 1) + 1) - ((σ k 1) + 1) / 16 * 16)) k 2) - 1)) + 1) y) k ((f_X1_rowOf (up σ k 1 (((σ k 1) + 1) - ((σ k 1) + 1) / 16 * 16)) k (((up σ k 1 (((σ k 1) + 1) - ((σ k 1) + 1) / 16 * 16)) k 2) - 1)) + 2) w
  else
    s_X1_write (s_X1_write (s_X1_write (up σ k 2 ((σ k 2) + 1)) k ((f_X1_rowOf (up σ k 2 ((σ k 2) + 1)) k (((up σ k 2 ((σ k 2) + 1)) k 2) - 1)) + 0) x) k ((f_X1_rowOf (up σ k 2 ((σ k 2) + 1)) k (((up σ k 2 ((σ k 2) + 1)) k 2) - 1)) + 1) y) k ((f_X1_rowOf (up σ k 2 ((σ k 2) + 1)) k (((up σ k 2 ((σ k 2) + 1)) k 2) - 1)) + 2) w
set_option maxHeartbeats 4000000 in
set_option maxRecDepth 100000 in
theorem k_X1_add (l : Launch) (D : va_G) (cy : Nat → ClassId) (z : Nat) (o : Int64) (d : UInt64) (σ τ : Sg) {k : Nat} (hk : kd k = 1) (x : Int32) (y : Int32) (w : Int32) : KV l yX1_add cX1_add 5 rm_X1_add D cy z [.ref (z + k), .int x, .int y, .int w] o d σ τ (s_X1_add σ k x y w) τ := by
  refine met_of RX1 (plainFor_of_name (by decide)) rfl (Nat.le_of_ble_eq_true rfl) ?_
  intro p e s m args below meth c C hP hS ls hl
  obtain ⟨hx, hb, hr, hml, hown, hW, hlocks, hAm⟩ := id C
  have hl : lv_has ls 5 [(0, .ref (z + k)), (1, .int x), (2, .int y), (3, .int w)] := hl
  refine lv_aload_n hx hb dX1_add_0 rfl (lv_at hl 0 rfl) ?_
  refine gf_X1_15 C hP hk dX1_add_1 ?_
  refine lv_bipush (v := 16) hx hb dX1_add_4 (by decide) ?_
  refine lv_icmp_ge (tgt := 22) hx hb dX1_add_6 (by decide) (fun c_6 => ?_) (fun c_6 => ?_)
  · refine lv_aload_n hx hb dX1_add_22 rfl (lv_at hl 0 rfl) ?_
    refine lv_aload_n hx hb dX1_add_23 rfl (lv_at hl 0 rfl) ?_
    refine gf_X1_19 C hP hk dX1_add_24 ?_
    refine lv_iconst (v := 1) hx hb dX1_add_27 (by decide) ?_
    refine lv_iadd hx hb dX1_add_28 ?_
    refine lv_bipush (v := 16) hx hb dX1_add_29 (by decide) ?_
    refine lv_irem hx hb dX1_add_31 (by decide) ?_
    refine pf_X1_19 C hP hS hk dX1_add_32 (fun H locs hP hS => ?_)
    refine lv_aload_n hx hb dX1_add_35 rfl (lv_at hl 0 rfl) ?_
    refine lv_aload_n hx hb dX1_add_36 rfl (lv_at hl 0 rfl) ?_
    refine gf_X1_15 C hP hk dX1_add_37 ?_
    refine lv_iconst (v := 1) hx hb dX1_add_40 (by decide) ?_
    refine lv_isub hx hb dX1_add_41 ?_
    refine thn_I (run_V (As := [.int (((up σ k 1 (((σ k 1) + 1) - ((σ k 1) + 1) / 16 * 16)) k 2) - 1)]) (rest := []) C (k_X1_rowOf l D cy z o d (up σ k 1 (((σ k 1) + 1) - ((σ k 1) + 1) / 16 * 16)) τ hk (((up σ k 1 (((σ k 1) + 1) - ((σ k 1) + 1) / 16 * 16)) k 2) - 1)) hP hS cw_X1_rowOf (mA2 (i := 172) rfl rfl) hk ⟨rfl, rfl⟩ ⟨Nat.le_of_ble_eq_true rfl, Nat.le_of_ble_eq_true rfl⟩ rfl (Nat.le_of_ble_eq_true rfl) hl.1 ⟨Nat.zero_le _, Nat.zero_le _⟩ dX1_add_42) hS (fun H locs hP hS => ?_)
    refine lv_istore (lv' := [(4, .int (f_X1_rowOf (up σ k 1 (((σ k 1) + 1) - ((σ k 1) + 1) / 16 * 16)) k (((up σ k 1 (((σ k 1) + 1) - ((σ k 1) + 1) / 16 * 16)) k 2) - 1))), (0, .ref (z + k)), (1, .int x), (2, .int y), (3, .int w)]) hx hb dX1_add_45 hl (by decide) rfl (fun ls hl => ?_)
    refine lv_aload_n hx hb dX1_add_47 rfl (lv_at hl 1 rfl) ?_
    refine lv_iload hx hb dX1_add_48 (lv_at hl 0 rfl) ?_
    refine lv_iconst (v := 0) hx hb dX1_add_50 (by decide) ?_
    refine lv_iadd hx hb dX1_add_51 ?_
    refine lv_iload_n hx hb dX1_add_52 rfl (lv_at hl 2 rfl) ?_
    refine thn_V (run_V (As := [.int ((f_X1_rowOf (up σ k 1 (((σ k 1) + 1) - ((σ k 1) + 1) / 16 * 16)) k (((up σ k 1 (((σ k 1) + 1) - ((σ k 1) + 1) / 16 * 16)) k 2) - 1)) + 0), .int x]) (rest := []) C (k_X1_write l D cy z o d (up σ k 1 (((σ k 1) + 1) - ((σ k 1) + 1) / 16 * 16)) τ hk ((f_X1_rowOf (up σ k 1 (((σ k 1) + 1) - ((σ k 1) + 1) / 16 * 16)) k (((up σ k 1 (((σ k 1) + 1) - ((σ k 1) + 1) / 16 * 16)) k 2) - 1)) + 0) x) hP hS cw_X1_write (mA2 (i := 176) rfl rfl) hk ⟨rfl, rfl⟩ ⟨Nat.le_of_ble_eq_true rfl, Nat.le_of_ble_eq_true rfl⟩ rfl (Nat.le_of_ble_eq_true rfl) hl.1 ⟨Nat.zero_le _, Nat.zero_le _⟩ dX1_add_53) hS (fun H locs hP hS => ?_)
    refine lv_aload_n hx hb dX1_add_56 rfl (lv_at hl 1 rfl) ?_
    refine lv_iload hx hb dX1_add_57 (lv_at hl 0 rfl) ?_
    refine lv_iconst (v := 1) hx hb dX1_add_59 (by decide) ?_
    refine lv_iadd hx hb dX1_add_60 ?_
    refine lv_iload_n hx hb dX1_add_61 rfl (lv_at hl 3 rfl) ?_
    refine thn_V (run_V (As := [.int ((f_X1_rowOf (up σ k 1 (((σ k 1) + 1) - ((σ k 1) + 1) / 16 * 16)) k (((up σ k 1 (((σ k 1) + 1) - ((σ k 1) + 1) / 16 * 16)) k 2) - 1)) + 1), .int y]) (rest := []) C (k_X1_write l D cy z o d (s_X1_write (up σ k 1 (((σ k 1) + 1) - ((σ k 1) + 1) / 16 * 16)) k ((f_X1_rowOf (up σ k 1 (((σ k 1) + 1) - ((σ k 1) + 1) / 16 * 16)) k (((up σ k 1 (((σ k 1) + 1) - ((σ k 1) + 1) / 16 * 16)) k 2) - 1)) + 0) x) τ hk ((f_X1_rowOf (up σ k 1 (((σ k 1) + 1) - ((σ k 1) + 1) / 16 * 16)) k (((up σ k 1 (((σ k 1) + 1) - ((σ k 1) + 1) / 16 * 16)) k 2) - 1)) + 1) y) hP hS cw_X1_write (mA2 (i := 176) rfl rfl) hk ⟨rfl, rfl⟩ ⟨Nat.le_of_ble_eq_true rfl, Nat.le_of_ble_eq_true rfl⟩ rfl (Nat.le_of_ble_eq_true rfl) hl.1 ⟨Nat.zero_le _, Nat.zero_le _⟩ dX1_add_62) hS (fun H locs hP hS => ?_)
    refine lv_aload_n hx hb dX1_add_65 rfl (lv_at hl 1 rfl) ?_
    refine lv_iload hx hb dX1_add_66 (lv_at hl 0 rfl) ?_
    refine lv_iconst (v := 2) hx hb dX1_add_68 (by decide) ?_
    refine lv_iadd hx hb dX1_add_69 ?_
    refine lv_iload_n hx hb dX1_add_70 rfl (lv_at hl 4 rfl) ?_
    refine thn_V (run_V (As := [.int ((f_X1_rowOf (up σ k 1 (((σ k 1) + 1) - ((σ k 1) + 1) / 16 * 16)) k (((up σ k 1 (((σ k 1) + 1) - ((σ k 1) + 1) / 16 * 16)) k 2) - 1)) + 2), .int w]) (rest := []) C (k_X1_write l D cy z o d (s_X1_write (s_X1_write (up σ k 1 (((σ k 1) + 1) - ((σ k 1) + 1) / 16 * 16)) k ((f_X1_rowOf (up σ k 1 (((σ k 1) + 1) - ((σ k 1) + 1) / 16 * 16)) k (((up σ k 1 (((σ k 1) + 1) - ((σ k 1) + 1) / 16 * 16)) k 2) - 1)) + 0) x) k ((f_X1_rowOf (up σ k 1 (((σ k 1) + 1) - ((σ k 1) + 1) / 16 * 16)) k (((up σ k 1 (((σ k 1) + 1) - ((σ k 1) + 1) / 16 * 16)) k 2) - 1)) + 1) y) τ hk ((f_X1_rowOf (up σ k 1 (((σ k 1) + 1) - ((σ k 1) + 1) / 16 * 16)) k (((up σ k 1 (((σ k 1) + 1) - ((σ k 1) + 1) / 16 * 16)) k 2) - 1)) + 2) w) hP hS cw_X1_write (mA2 (i := 176) rfl rfl) hk ⟨rfl, rfl⟩ ⟨Nat.le_of_ble_eq_true rfl, Nat.le_of_ble_eq_true rfl⟩ rfl (Nat.le_of_ble_eq_true rfl) hl.1 ⟨Nat.zero_le _, Nat.zero_le _⟩ dX1_add_71) hS (fun H locs hP hS => ?_)
    exact ret_V C hP hS (by unfold s_X1_add; rw [if_pos c_6]) rfl dX1_add_74
  · refine lv_aload_n hx hb dX1_add_9 rfl (lv_at hl 0 rfl) ?_
    refine lv_dup hx hb dX1_add_10 rfl ?_
    refine gf_X1_15 C hP hk dX1_add_11 ?_
    refine lv_iconst (v := 1) hx hb dX1_add_14 (by decide) ?_
    refine lv_iadd hx hb dX1_add_15 ?_
    refine pf_X1_15 C hP hS hk dX1_add_16 (fun H locs hP hS => ?_)
    refine lv_goto (tgt := 35) hx hb dX1_add_19 (by decide) ?_
    refine lv_aload_n hx hb dX1_add_35 rfl (lv_at hl 0 rfl) ?_
    refine lv_aload_n hx hb dX1_add_36 rfl (lv_at hl 0 rfl) ?_
    refine gf_X1_15 C hP hk dX1_add_37 ?_
    refine lv_iconst (v := 1) hx hb dX1_add_40 (by decide) ?_
    refine lv_isub hx hb dX1_add_41 ?_
    refine thn_I (run_V (As := [.int (((up σ k 2 ((σ k 2) + 1)) k 2) - 1)]) (rest := []) C (k_X1_rowOf l D cy z o d (up σ k 2 ((σ k 2) + 1)) τ hk (((up σ k 2 ((σ k 2) + 1)) k 2) - 1)) hP hS cw_X1_rowOf (mA2 (i := 172) rfl rfl) hk ⟨rfl, rfl⟩ ⟨Nat.le_of_ble_eq_true rfl, Nat.le_of_ble_eq_true rfl⟩ rfl (Nat.le_of_ble_eq_true rfl) hl.1 ⟨Nat.zero_le _, Nat.zero_le _⟩ dX1_add_42) hS (fun H locs hP hS => ?_)
    refine lv_istore (lv' := [(4, .int (f_X1_rowOf (up σ k 2 ((σ k 2) + 1)) k (((up σ k 2 ((σ k 2) + 1)) k 2) - 1))), (0, .ref (z + k)), (1, .int x), (2, .int y), (3, .int w)]) hx hb dX1_add_45 hl (by decide) rfl (fun ls hl => ?_)
    refine lv_aload_n hx hb dX1_add_47 rfl (lv_at hl 1 rfl) ?_
    refine lv_iload hx hb dX1_add_48 (lv_at hl 0 rfl) ?_
    refine lv_iconst (v := 0) hx hb dX1_add_50 (by decide) ?_
    refine lv_iadd hx hb dX1_add_51 ?_
    refine lv_iload_n hx hb dX1_add_52 rfl (lv_at hl 2 rfl) ?_
    refine thn_V (run_V (As := [.int ((f_X1_rowOf (up σ k 2 ((σ k 2) + 1)) k (((up σ k 2 ((σ k 2) + 1)) k 2) - 1)) + 0), .int x]) (rest := []) C (k_X1_write l D cy z o d (up σ k 2 ((σ k 2) + 1)) τ hk ((f_X1_rowOf (up σ k 2 ((σ k 2) + 1)) k (((up σ k 2 ((σ k 2) + 1)) k 2) - 1)) + 0) x) hP hS cw_X1_write (mA2 (i := 176) rfl rfl) hk ⟨rfl, rfl⟩ ⟨Nat.le_of_ble_eq_true rfl, Nat.le_of_ble_eq_true rfl⟩ rfl (Nat.le_of_ble_eq_true rfl) hl.1 ⟨Nat.zero_le _, Nat.zero_le _⟩ dX1_add_53) hS (fun H locs hP hS => ?_)
    refine lv_aload_n hx hb dX1_add_56 rfl (lv_at hl 1 rfl) ?_
    refine lv_iload hx hb dX1_add_57 (lv_at hl 0 rfl) ?_
    refine lv_iconst (v := 1) hx hb dX1_add_59 (by decide) ?_
    refine lv_iadd hx hb dX1_add_60 ?_
    refine lv_iload_n hx hb dX1_add_61 rfl (lv_at hl 3 rfl) ?_
    refine thn_V (run_V (As := [.int ((f_X1_rowOf (up σ k 2 ((σ k 2) + 1)) k (((up σ k 2 ((σ k 2) + 1)) k 2) - 1)) + 1), .int y]) (rest := []) C (k_X1_write l D cy z o d (s_X1_write (up σ k 2 ((σ k 2) + 1)) k ((f_X1_rowOf (up σ k 2 ((σ k 2) + 1)) k (((up σ k 2 ((σ k 2) + 1)) k 2) - 1)) + 0) x) τ hk ((f_X1_rowOf (up σ k 2 ((σ k 2) + 1)) k (((up σ k 2 ((σ k 2) + 1)) k 2) - 1)) + 1) y) hP hS cw_X1_write (mA2 (i := 176) rfl rfl) hk ⟨rfl, rfl⟩ ⟨Nat.le_of_ble_eq_true rfl, Nat.le_of_ble_eq_true rfl⟩ rfl (Nat.le_of_ble_eq_true rfl) hl.1 ⟨Nat.zero_le _, Nat.zero_le _⟩ dX1_add_62) hS (fun H locs hP hS => ?_)
    refine lv_aload_n hx hb dX1_add_65 rfl (lv_at hl 1 rfl) ?_
    refine lv_iload hx hb dX1_add_66 (lv_at hl 0 rfl) ?_
    refine lv_iconst (v := 2) hx hb dX1_add_68 (by decide) ?_
    refine lv_iadd hx hb dX1_add_69 ?_
    refine lv_iload_n hx hb dX1_add_70 rfl (lv_at hl 4 rfl) ?_
    refine thn_V (run_V (As := [.int ((f_X1_rowOf (up σ k 2 ((σ k 2) + 1)) k (((up σ k 2 ((σ k 2) + 1)) k 2) - 1)) + 2), .int w]) (rest := []) C (k_X1_write l D cy z o d (s_X1_write (s_X1_write (up σ k 2 ((σ k 2) + 1)) k ((f_X1_rowOf (up σ k 2 ((σ k 2) + 1)) k (((up σ k 2 ((σ k 2) + 1)) k 2) - 1)) + 0) x) k ((f_X1_rowOf (up σ k 2 ((σ k 2) + 1)) k (((up σ k 2 ((σ k 2) + 1)) k 2) - 1)) + 1) y) τ hk ((f_X1_rowOf (up σ k 2 ((σ k 2) + 1)) k (((up σ k 2 ((σ k 2) + 1)) k 2) - 1)) + 2) w) hP hS cw_X1_write (mA2 (i := 176) rfl rfl) hk ⟨rfl, rfl⟩ ⟨Nat.le_of_ble_eq_true rfl, Nat.le_of_ble_eq_true rfl⟩ rfl (Nat.le_of_ble_eq_true rfl) hl.1 ⟨Nat.zero_le _, Nat.zero_le _⟩ dX1_add_71) hS (fun H locs hP hS => ?_)
    exact ret_V C hP hS (by unfold s_X1_add; rw [if_neg c_6]) rfl dX1_add_74

theorem cw_X1_dropLatest : cwVt yX1_dropLatest cX1_dropLatest 1 none 1 0 := ⟨(mA3 (i := 11) rfl rfl), (mA3 (i := 12) rfl rfl), (mA1 (i := 4) rfl rfl), (mA3 (i := 13) rfl rfl), by decide +kernel, ⟨_, rfl, rfl⟩, by decide⟩
abbrev rm_X1_dropLatest : Room := { frames := 0, cells := 0, slots := 0, locals := 0 }
def s_X1_dropLatest (σ : Sg) (k : Nat) : Sg :=
  if (σ k 2) ≤ 0 then
    σ
  else
    up σ k 2 ((σ k 2) - 1)
set_option maxHeartbeats 4000000 in
set_option maxRecDepth 100000 in
theorem k_X1_dropLatest (l : Launch) (D : va_G) (cy : Nat → ClassId) (z : Nat) (o : Int64) (d : UInt64) (σ τ : Sg) {k : Nat} (hk : kd k = 1) : KV l yX1_dropLatest cX1_dropLatest 1 rm_X1_dropLatest D cy z [.ref (z + k)] o d σ τ (s_X1_dropLatest σ k) τ := by
  refine met_of RX1 (plainFor_of_name (by decide)) rfl (Nat.le_of_ble_eq_true rfl) ?_
  intro p e s m args below meth c C hP hS ls hl
  obtain ⟨hx, hb, hr, hml, hown, hW, hlocks, hAm⟩ := id C
  have hl : lv_has ls 1 [(0, .ref (z + k))] := hl
  refine lv_aload_n hx hb dX1_dropLatest_0 rfl (lv_at hl 0 rfl) ?_
  refine gf_X1_15 C hP hk dX1_dropLatest_1 ?_
  refine lv_if_le (tgt := 17) hx hb dX1_dropLatest_4 (by decide) (fun c_4 => ?_) (fun c_4 => ?_)
  · exact ret_V C hP hS (by unfold s_X1_dropLatest; rw [if_pos c_4]) rfl dX1_dropLatest_17
  · refine lv_aload_n hx hb dX1_dropLatest_7 rfl (lv_at hl 0 rfl) ?_
    refine lv_dup hx hb dX1_dropLatest_8 rfl ?_
    refine gf_X1_15 C hP hk dX1_dropLatest_9 ?_
    refine lv_iconst (v := 1) hx hb dX1_dropLatest_12 (by decide) ?_
    refine lv_isub hx hb dX1_dropLatest_13 ?_
    refine pf_X1_15 C hP hS hk dX1_dropLatest_14 (fun H locs hP hS => ?_)
    exact ret_V C hP hS (by unfold s_X1_dropLatest; rw [if_neg c_4]) rfl dX1_dropLatest_17

theorem cw_X2_append : cwVt yX2_append cX2_append 2 none 2 1 := ⟨(mA3 (i := 39) rfl rfl), (mA3 (i := 40) rfl rfl), (mA1 (i := 6) rfl rfl), (mA3 (i := 41) rfl rfl), by decide +kernel, ⟨_, rfl, rfl⟩, by decide⟩
abbrev rm_X2_append : Room := { frames := 0, cells := 0, slots := 0, locals := 0 }
def s_X2_append (σ : Sg) (k : Nat) (x : Int32) : Sg :=
  if (σ k 1) < 0 then
    σ
  else
    if 80 ≤ (σ k 1) then
      σ
    else
      up (up σ (k + 1) ((σ k 1).toNatClampNeg) x) k 1 (((up σ (k + 1) ((σ k 1).toNatClampNeg) x) k 1) + 1)
set_option maxHeartbeats 4000000 in
set_option maxRecDepth 100000 in
theorem k_X2_append (l : Launch) (D : va_G) (cy : Nat → ClassId) (z : Nat) (o : Int64) (d : UInt64) (σ τ : Sg) {k : Nat} (hk : kd k = 2) (x : Int32) : KV l yX2_append cX2_append 2 rm_X2_append D cy z [.ref (z + k), .int x] o d σ τ (s_X2_append σ k x) τ := by
  refine met_of RX2 (plainFor_of_name (by decide)) rfl (Nat.le_of_ble_eq_true rfl) ?_
  intro p e s m args below meth c C hP hS ls hl
  obtain ⟨hx, hb, hr, hml, hown, hW, hlocks, hAm⟩ := id C
  have hl : lv_has ls 2 [(0, .ref (z + k)), (1, .int x)] := hl
  refine lv_aload_n hx hb dX2_append_0 rfl (lv_at hl 0 rfl) ?_
  refine gf_X2_15 C hP hk dX2_append_1 ?_
  refine lv_if_lt (tgt := 39) hx hb dX2_append_4 (by decide) (fun c_4 => ?_) (fun c_4 => ?_)
  · exact ret_V C hP hS (by unfold s_X2_append; rw [if_pos c_4]) rfl dX2_append_39
  · refine lv_aload_n hx hb dX2_append_7 rfl (lv_at hl 0 rfl) ?_
    refine gf_X2_15 C hP hk dX2_append_8 ?_
    refine lv_aload_n hx hb dX2_append_11 rfl (lv_at hl 0 rfl) ?_
    refine gf_X2_9 C hP hk dX2_append_12 ?_
    refine ln_8 C hP (kd2_1 hk) dX2_append_15 ?_
    refine lv_icmp_ge (tgt := 39) hx hb dX2_append_16 (by decide) (fun c_16 => ?_) (fun c_16 => ?_)
    · exact ret_V C hP hS (by unfold s_X2_append; rw [if_neg c_4, if_pos c_16]) rfl dX2_append_39
    · refine lv_aload_n hx hb dX2_append_19 rfl (lv_at hl 0 rfl) ?_
      refine gf_X2_9 C hP hk dX2_append_20 ?_
      refine lv_aload_n hx hb dX2_append_23 rfl (lv_at hl 0 rfl) ?_
      refine gf_X2_15 C hP hk dX2_append_24 ?_
      refine lv_iload_n hx hb dX2_append_27 rfl (lv_at hl 1 rfl) ?_
      refine as_8 C hP hS (kd2_1 hk) (vpin_of c_4 c_16 (by decide)) dX2_append_28 (fun H locs hP hS => ?_)
      refine lv_aload_n hx hb dX2_append_29 rfl (lv_at hl 0 rfl) ?_
      refine lv_dup hx hb dX2_append_30 rfl ?_
      refine gf_X2_15 C hP hk dX2_append_31 ?_
      refine lv_iconst (v := 1) hx hb dX2_append_34 (by decide) ?_
      refine lv_iadd hx hb dX2_append_35 ?_
      refine pf_X2_15 C hP hS hk dX2_append_36 (fun H locs hP hS => ?_)
      exact ret_V C hP hS (by unfold s_X2_append; rw [if_neg c_4, if_neg c_16]) rfl dX2_append_39

theorem cw_X2_sign : cwVt yX2_sign cX2_sign 2 (some .char) 2 1 := ⟨(mA1 (i := 200) rfl rfl), (mA1 (i := 201) rfl rfl), (mA1 (i := 6) rfl rfl), (mA1 (i := 202) rfl rfl), by decide +kernel, ⟨_, rfl, rfl⟩, by decide⟩
abbrev rm_X2_sign : Room := { frames := 0, cells := 0, slots := 0, locals := 0 }
def f_X2_sign (σ : Sg) (k : Nat) (x : Int32) : Int32 :=
  if x < 0 then
    0
  else
    if (σ k 1) ≤ x then
      0
    else
      if x < 80 then
        chr (σ (k + 1) (x.toNatClampNeg))
      else
        0
set_option maxHeartbeats 4000000 in
set_option maxRecDepth 100000 in
theorem k_X2_sign (l : Launch) (D : va_G) (cy : Nat → ClassId) (z : Nat) (o : Int64) (d : UInt64) (σ τ : Sg) {k : Nat} (hk : kd k = 2) (x : Int32) : KI l yX2_sign cX2_sign 2 (some .char) rm_X2_sign D cy z [.ref (z + k), .int x] o d σ τ (f_X2_sign σ k x) σ τ := by
  refine met_of RX2 (plainFor_of_name (by decide)) rfl (Nat.le_of_ble_eq_true rfl) ?_
  intro p e s m args below meth c C hP hS ls hl
  obtain ⟨hx, hb, hr, hml, hown, hW, hlocks, hAm⟩ := id C
  have hl : lv_has ls 2 [(0, .ref (z + k)), (1, .int x)] := hl
  refine lv_iload_n hx hb dX2_sign_0 rfl (lv_at hl 1 rfl) ?_
  refine lv_if_lt (tgt := 21) hx hb dX2_sign_1 (by decide) (fun c_1 => ?_) (fun c_1 => ?_)
  · refine lv_iconst (v := 0) hx hb dX2_sign_21 (by decide) ?_
    refine lv_goto (tgt := 31) hx hb dX2_sign_22 (by decide) ?_
    exact ret_I C hP hS (by decide) rfl (by unfold f_X2_sign; rw [if_pos c_1]) rfl rfl dX2_sign_31
  · refine lv_iload_n hx hb dX2_sign_4 rfl (lv_at hl 1 rfl) ?_
    refine lv_aload_n hx hb dX2_sign_5 rfl (lv_at hl 0 rfl) ?_
    refine gf_X2_15 C hP hk dX2_sign_6 ?_
    refine lv_icmp_ge (tgt := 21) hx hb dX2_sign_9 (by decide) (fun c_9 => ?_) (fun c_9 => ?_)
    · refine lv_iconst (v := 0) hx hb dX2_sign_21 (by decide) ?_
      refine lv_goto (tgt := 31) hx hb dX2_sign_22 (by decide) ?_
      exact ret_I C hP hS (by decide) rfl (by unfold f_X2_sign; rw [if_neg c_1, if_pos c_9]) rfl rfl dX2_sign_31
    · refine lv_iload_n hx hb dX2_sign_12 rfl (lv_at hl 1 rfl) ?_
      refine lv_aload_n hx hb dX2_sign_13 rfl (lv_at hl 0 rfl) ?_
      refine gf_X2_9 C hP hk dX2_sign_14 ?_
      refine ln_8 C hP (kd2_1 hk) dX2_sign_17 ?_
      refine lv_icmp_lt (tgt := 25) hx hb dX2_sign_18 (by decide) (fun c_18 => ?_) (fun c_18 => ?_)
      · refine lv_aload_n hx hb dX2_sign_25 rfl (lv_at hl 0 rfl) ?_
        refine gf_X2_9 C hP hk dX2_sign_26 ?_
        refine lv_iload_n hx hb dX2_sign_29 rfl (lv_at hl 1 rfl) ?_
        refine al_8 C hP (kd2_1 hk) (vpin_of' c_1 c_18 (by decide)) dX2_sign_30 ?_
        exact ret_I C hP hS (nar_c _) rfl (by unfold f_X2_sign; rw [if_neg c_1, if_neg c_9, if_pos c_18]) rfl rfl dX2_sign_31
      · refine lv_iconst (v := 0) hx hb dX2_sign_21 (by decide) ?_
        refine lv_goto (tgt := 31) hx hb dX2_sign_22 (by decide) ?_
        exact ret_I C hP hS (by decide) rfl (by unfold f_X2_sign; rw [if_neg c_1, if_neg c_9, if_neg c_18]) rfl rfl dX2_sign_31

theorem cw_X2_digit : cwVt yX2_digit cX2_digit 2 (some .int) 2 1 := ⟨(mA3 (i := 67) rfl rfl), (mA3 (i := 68) rfl rfl), (mA1 (i := 6) rfl rfl), (mA3 (i := 69) rfl rfl), by decide +kernel, ⟨_, rfl, rfl⟩, by decide⟩
abbrev rm_X2_digit : Room := { frames := 1, cells := 0, slots := 0, locals := 21 }
def f_X2_digit (σ : Sg) (k : Nat) (x : Int32) : Int32 :=
  (f_X2_sign σ k x) - 48
set_option maxHeartbeats 4000000 in
set_option maxRecDepth 100000 in
theorem k_X2_digit (l : Launch) (D : va_G) (cy : Nat → ClassId) (z : Nat) (o : Int64) (d : UInt64) (σ τ : Sg) {k : Nat} (hk : kd k = 2) (x : Int32) : KI l yX2_digit cX2_digit 2 (some .int) rm_X2_digit D cy z [.ref (z + k), .int x] o d σ τ (f_X2_digit σ k x) σ τ := by
  refine met_of RX2 (plainFor_of_name (by decide)) rfl (Nat.le_of_ble_eq_true rfl) ?_
  intro p e s m args below meth c C hP hS ls hl
  obtain ⟨hx, hb, hr, hml, hown, hW, hlocks, hAm⟩ := id C
  have hl : lv_has ls 2 [(0, .ref (z + k)), (1, .int x)] := hl
  refine lv_aload_n hx hb dX2_digit_0 rfl (lv_at hl 0 rfl) ?_
  refine lv_iload_n hx hb dX2_digit_1 rfl (lv_at hl 1 rfl) ?_
  refine thn_I (run_V (As := [.int x]) (rest := []) C (k_X2_sign l D cy z o d σ τ hk x) hP hS cw_X2_sign (mA1 (i := 199) rfl rfl) hk ⟨rfl, rfl⟩ ⟨Nat.le_of_ble_eq_true rfl, Nat.le_of_ble_eq_true rfl⟩ rfl (Nat.le_of_ble_eq_true rfl) hl.1 ⟨Nat.zero_le _, Nat.zero_le _⟩ dX2_digit_2) hS (fun H locs hP hS => ?_)
  refine lv_bipush (v := 48) hx hb dX2_digit_5 (by decide) ?_
  refine lv_isub hx hb dX2_digit_7 ?_
  exact ret_I C hP hS (nar_i _) rfl rfl rfl rfl dX2_digit_8

theorem cw_X2_isBetween : cwSt yX2_isBetween cX2_isBetween 3 (some .boolean) 3 := ⟨(mA1 (i := 210) rfl rfl), (mA1 (i := 6) rfl rfl), (mA1 (i := 211) rfl rfl), by decide +kernel⟩
abbrev rm_X2_isBetween : Room := { frames := 0, cells := 0, slots := 0, locals := 0 }
def f_X2_isBetween  (x : Int32) (y : Int32) (w : Int32) : Int32 :=
  if y < x then
    0
  else
    if w < y then
      0
    else
      1
set_option maxHeartbeats 4000000 in
set_option maxRecDepth 100000 in
theorem k_X2_isBetween (l : Launch) (D : va_G) (cy : Nat → ClassId) (z : Nat) (o : Int64) (d : UInt64) (σ τ : Sg) (x : Int32) (y : Int32) (w : Int32) : KI l yX2_isBetween cX2_isBetween 3 (some .boolean) rm_X2_isBetween D cy z [.int x, .int y, .int w] o d σ τ (f_X2_isBetween x y w) σ τ := by
  refine met_of RX2 (plainFor_of_name (by decide)) rfl (Nat.le_of_ble_eq_true rfl) ?_
  intro p e s m args below meth c C hP hS ls hl
  obtain ⟨hx, hb, hr, hml, hown, hW, hlocks, hAm⟩ := id C
  have hl : lv_has ls 3 [(0, .int x), (1, .int y), (2, .int w)] := hl
  refine lv_iload_n hx hb dX2_isBetween_0 rfl (lv_at hl 1 rfl) ?_
  refine lv_iload_n hx hb dX2_isBetween_1 rfl (lv_at hl 0 rfl) ?_
  refine lv_icmp_lt (tgt := 14) hx hb dX2_isBetween_2 (by decide) (fun c_2 => ?_) (fun c_2 => ?_)
  · refine lv_iconst (v := 0) hx hb dX2_isBetween_14 (by decide) ?_
    exact ret_I C hP hS nar_z0 rfl (by unfold f_X2_isBetween; rw [if_pos c_2]) rfl rfl dX2_isBetween_15
  · refine lv_iload_n hx hb dX2_isBetween_5 rfl (lv_at hl 1 rfl) ?_
    refine lv_iload_n hx hb dX2_isBetween_6 rfl (lv_at hl 2 rfl) ?_
    refine lv_icmp_gt (tgt := 14) hx hb dX2_isBetween_7 (by decide) (fun c_7 => ?_) (fun c_7 => ?_)
    · refine lv_iconst (v := 0) hx hb dX2_isBetween_14 (by decide) ?_
      exact ret_I C hP hS nar_z0 rfl (by unfold f_X2_isBetween; rw [if_neg c_2, if_pos c_7]) rfl rfl dX2_isBetween_15
    · refine lv_iconst (v := 1) hx hb dX2_isBetween_10 (by decide) ?_
      refine lv_goto (tgt := 15) hx hb dX2_isBetween_11 (by decide) ?_
      exact ret_I C hP hS nar_z1 rfl (by unfold f_X2_isBetween; rw [if_neg c_2, if_neg c_7]) rfl rfl dX2_isBetween_15
theorem nz_X2_isBetween  (x : Int32) (y : Int32) (w : Int32) : narrow .boolean (.int (f_X2_isBetween x y w)) = .int (f_X2_isBetween x y w) := by
  unfold f_X2_isBetween
  repeat' split
  all_goals first | exact nar_z1 | exact nar_z0

theorem cw_X2_number : cwVt yX2_number cX2_number 4 (some .int) 2 1 := ⟨(mA3 (i := 72) rfl rfl), (mA3 (i := 73) rfl rfl), (mA1 (i := 6) rfl rfl), (mA3 (i := 74) rfl rfl), by decide +kernel, ⟨_, rfl, rfl⟩, by decide⟩
abbrev rm_X2_number : Room := { frames := 2, cells := 0, slots := 0, locals := 42 }
def f_X2_number (σ : Sg) (k : Nat) (x : Int32) : Int32 :=
  if (f_X2_isBetween 48 (f_X2_sign σ k (x + 1)) 57) = 0 then
    f_X2_digit σ k x
  else
    (10 * (f_X2_digit σ k x)) + ((f_X2_sign σ k (x + 1)) - 48)
set_option maxHeartbeats 4000000 in
set_option maxRecDepth 100000 in
theorem k_X2_number (l : Launch) (D : va_G) (cy : Nat → ClassId) (z : Nat) (o : Int64) (d : UInt64) (σ τ : Sg) {k : Nat} (hk : kd k = 2) (x : Int32) : KI l yX2_number cX2_number 4 (some .int) rm_X2_number D cy z [.ref (z + k), .int x] o d σ τ (f_X2_number σ k x) σ τ := by
  refine met_of RX2 (plainFor_of_name (by decide)) rfl (Nat.le_of_ble_eq_true rfl) ?_
  intro p e s m args below meth c C hP hS ls hl
  obtain ⟨hx, hb, hr, hml, hown, hW, hlocks, hAm⟩ := id C
  have hl : lv_has ls 4 [(0, .ref (z + k)), (1, .int x)] := hl
  refine lv_aload_n hx hb dX2_number_0 rfl (lv_at hl 0 rfl) ?_
  refine lv_iload_n hx hb dX2_number_1 rfl (lv_at hl 1 rfl) ?_
  refine thn_I (run_V (As := [.int x]) (rest := []) C (k_X2_digit l D cy z o d σ τ hk x) hP hS cw_X2_digit (mA3 (i := 75) rfl rfl) hk ⟨rfl, rfl⟩ ⟨Nat.le_of_ble_eq_true rfl, Nat.le_of_ble_eq_true rfl⟩ rfl (Nat.le_of_ble_eq_true rfl) hl.1 ⟨Nat.zero_le _, Nat.zero_le _⟩ dX2_number_2) hS (fun H locs hP hS => ?_)
  refine lv_istore_n (lv' := [(2, .int (f_X2_digit σ k x)), (0, .ref (z + k)), (1, .int x)]) hx hb dX2_number_5 rfl hl (by decide) rfl (fun ls hl => ?_)
  refine lv_aload_n hx hb dX2_number_6 rfl (lv_at hl 1 rfl) ?_
  refine lv_iload_n hx hb dX2_number_7 rfl (lv_at hl 2 rfl) ?_
  refine lv_iconst (v := 1) hx hb dX2_number_8 (by decide) ?_
  refine lv_iadd hx hb dX2_number_9 ?_
  refine thn_I (run_V (As := [.int (x + 1)]) (rest := []) C (k_X2_sign l D cy z o d σ τ hk (x + 1)) hP hS cw_X2_sign (mA1 (i := 199) rfl rfl) hk ⟨rfl, rfl⟩ ⟨Nat.le_of_ble_eq_true rfl, Nat.le_of_ble_eq_true rfl⟩ rfl (Nat.le_of_ble_eq_true rfl) hl.1 ⟨Nat.zero_le _, Nat.zero_le _⟩ dX2_number_10) hS (fun H locs hP hS => ?_)
  refine lv_istore_n (lv' := [(3, .int (f_X2_sign σ k (x + 1))), (2, .int (f_X2_digit σ k x)), (0, .ref (z + k)), (1, .int x)]) hx hb dX2_number_13 rfl hl (by decide) rfl (fun ls hl => ?_)
  refine lv_bipush (v := 48) hx hb dX2_number_14 (by decide) ?_
  refine lv_iload_n hx hb dX2_number_16 rfl (lv_at hl 0 rfl) ?_
  refine lv_bipush (v := 57) hx hb dX2_number_17 (by decide) ?_
  refine thn_I (run_S (As := [.int 48, .int (f_X2_sign σ k (x + 1)), .int 57]) (rest := []) C (k_X2_isBetween l D cy z o d σ τ 48 (f_X2_sign σ k (x + 1)) 57) hP hS cw_X2_isBetween (mA1 (i := 209) rfl rfl) ⟨rfl, rfl⟩ ⟨Nat.le_of_ble_eq_true rfl, Nat.le_of_ble_eq_true rfl⟩ rfl (Nat.le_of_ble_eq_true rfl) hl.1 ⟨Nat.zero_le _, Nat.zero_le _⟩ dX2_number_19) hS (fun H locs hP hS => ?_)
  refine lv_if_eq (tgt := 37) hx hb dX2_number_22 (by decide) (fun c_22 => ?_) (fun c_22 => ?_)
  · refine lv_iload_n hx hb dX2_number_37 rfl (lv_at hl 1 rfl) ?_
    exact ret_I C hP hS (nar_i _) rfl (by unfold f_X2_number; rw [if_pos c_22]) rfl rfl dX2_number_38
  · refine lv_bipush (v := 10) hx hb dX2_number_25 (by decide) ?_
    refine lv_iload_n hx hb dX2_number_27 rfl (lv_at hl 1 rfl) ?_
    refine lv_imul hx hb dX2_number_28 ?_
    refine lv_iload_n hx hb dX2_number_29 rfl (lv_at hl 0 rfl) ?_
    refine lv_bipush (v := 48) hx hb dX2_number_30 (by decide) ?_
    refine lv_isub hx hb dX2_number_32 ?_
    refine lv_iadd hx hb dX2_number_33 ?_
    refine lv_goto (tgt := 38) hx hb dX2_number_34 (by decide) ?_
    exact ret_I C hP hS (nar_i _) rfl (by unfold f_X2_number; rw [if_neg c_22]) rfl rfl dX2_number_38

theorem cw_X2_mayEnd : cwSt yX2_mayEnd cX2_mayEnd 1 (some .boolean) 1 := ⟨(mA1 (i := 207) rfl rfl), (mA1 (i := 6) rfl rfl), (mA1 (i := 208) rfl rfl), by decide +kernel⟩
abbrev rm_X2_mayEnd : Room := { frames := 0, cells := 0, slots := 0, locals := 0 }
def f_X2_mayEnd  (x : Int32) : Int32 :=
  if x = 3 then
    1
  else
    if x = 5 then
      1
    else
      if x = 6 then
        1
      else
        0
set_option maxHeartbeats 4000000 in
set_option maxRecDepth 100000 in
theorem k_X2_mayEnd (l : Launch) (D : va_G) (cy : Nat → ClassId) (z : Nat) (o : Int64) (d : UInt64) (σ τ : Sg) (x : Int32) : KI l yX2_mayEnd cX2_mayEnd 1 (some .boolean) rm_X2_mayEnd D cy z [.int x] o d σ τ (f_X2_mayEnd x) σ τ := by
  refine met_of RX2 (plainFor_of_name (by decide)) rfl (Nat.le_of_ble_eq_true rfl) ?_
  intro p e s m args below meth c C hP hS ls hl
  obtain ⟨hx, hb, hr, hml, hown, hW, hlocks, hAm⟩ := id C
  have hl : lv_has ls 1 [(0, .int x)] := hl
  refine lv_iload_n hx hb dX2_mayEnd_0 rfl (lv_at hl 0 rfl) ?_
  refine lv_iconst (v := 3) hx hb dX2_mayEnd_1 (by decide) ?_
  refine lv_icmp_eq (tgt := 16) hx hb dX2_mayEnd_2 (by decide) (fun c_2 => ?_) (fun c_2 => ?_)
  · refine lv_iconst (v := 1) hx hb dX2_mayEnd_16 (by decide) ?_
    refine lv_goto (tgt := 21) hx hb dX2_mayEnd_17 (by decide) ?_
    exact ret_I C hP hS nar_z1 rfl (by unfold f_X2_mayEnd; rw [if_pos c_2]) rfl rfl dX2_mayEnd_21
  · refine lv_iload_n hx hb dX2_mayEnd_5 rfl (lv_at hl 0 rfl) ?_
    refine lv_iconst (v := 5) hx hb dX2_mayEnd_6 (by decide) ?_
    refine lv_icmp_eq (tgt := 16) hx hb dX2_mayEnd_7 (by decide) (fun c_7 => ?_) (fun c_7 => ?_)
    · refine lv_iconst (v := 1) hx hb dX2_mayEnd_16 (by decide) ?_
      refine lv_goto (tgt := 21) hx hb dX2_mayEnd_17 (by decide) ?_
      exact ret_I C hP hS nar_z1 rfl (by unfold f_X2_mayEnd; rw [if_neg c_2, if_pos c_7]) rfl rfl dX2_mayEnd_21
    · refine lv_iload_n hx hb dX2_mayEnd_10 rfl (lv_at hl 0 rfl) ?_
      refine lv_bipush (v := 6) hx hb dX2_mayEnd_11 (by decide) ?_
      refine lv_icmp_ne (tgt := 20) hx hb dX2_mayEnd_13 (by decide) (fun c_13 => ?_) (fun c_13 => ?_)
      · refine lv_iconst (v := 0) hx hb dX2_mayEnd_20 (by decide) ?_
        exact ret_I C hP hS nar_z0 rfl (by unfold f_X2_mayEnd; rw [if_neg c_2, if_neg c_7, if_neg c_13]) rfl rfl dX2_mayEnd_21
      · refine lv_iconst (v := 1) hx hb dX2_mayEnd_16 (by decide) ?_
        refine lv_goto (tgt := 21) hx hb dX2_mayEnd_17 (by decide) ?_
        exact ret_I C hP hS nar_z1 rfl (by unfold f_X2_mayEnd; rw [if_neg c_2, if_neg c_7, if_pos c_13]) rfl rfl dX2_mayEnd_21
theorem nz_X2_mayEnd  (x : Int32) : narrow .boolean (.int (f_X2_mayEnd x)) = .int (f_X2_mayEnd x) := by
  unfold f_X2_mayEnd
  repeat' split
  all_goals first | exact nar_z1 | exact nar_z0

theorem cw_X2_placeAfterSnail : cwSt yX2_placeAfterSnail cX2_placeAfterSnail 1 (some .int) 1 := ⟨(mA1 (i := 213) rfl rfl), (mA1 (i := 6) rfl rfl), (mA1 (i := 214) rfl rfl), by decide +kernel⟩
abbrev rm_X2_placeAfterSnail : Room := { frames := 0, cells := 0, slots := 0, locals := 0 }
def f_X2_placeAfterSnail  (x : Int32) : Int32 :=
  if x = 58 then
    2
  else
    if x = 98 then
      4
    else
      if x = 109 then
        6
      else
        (-1)
set_option maxHeartbeats 4000000 in
set_option maxRecDepth 100000 in
theorem k_X2_placeAfterSnail (l : Launch) (D : va_G) (cy : Nat → ClassId) (z : Nat) (o : Int64) (d : UInt64) (σ τ : Sg) (x : Int32) : KI l yX2_placeAfterSnail cX2_placeAfterSnail 1 (some .int) rm_X2_placeAfterSnail D cy z [.int x] o d σ τ (f_X2_placeAfterSnail x) σ τ := by
  refine met_of RX2 (plainFor_of_name (by decide)) rfl (Nat.le_of_ble_eq_true rfl) ?_
  intro p e s m args below meth c C hP hS ls hl
  obtain ⟨hx, hb, hr, hml, hown, hW, hlocks, hAm⟩ := id C
  have hl : lv_has ls 1 [(0, .int x)] := hl
  refine lv_iload_n hx hb dX2_placeAfterSnail_0 rfl (lv_at hl 0 rfl) ?_
  refine lv_bipush (v := 58) hx hb dX2_placeAfterSnail_1 (by decide) ?_
  refine lv_icmp_ne (tgt := 8) hx hb dX2_placeAfterSnail_3 (by decide) (fun c_3 => ?_) (fun c_3 => ?_)
  · refine lv_iload_n hx hb dX2_placeAfterSnail_8 rfl (lv_at hl 0 rfl) ?_
    refine lv_bipush (v := 98) hx hb dX2_placeAfterSnail_9 (by decide) ?_
    refine lv_icmp_ne (tgt := 16) hx hb dX2_placeAfterSnail_11 (by decide) (fun c_11 => ?_) (fun c_11 => ?_)
    · refine lv_iload_n hx hb dX2_placeAfterSnail_16 rfl (lv_at hl 0 rfl) ?_
      refine lv_bipush (v := 109) hx hb dX2_placeAfterSnail_17 (by decide) ?_
      refine lv_icmp_ne (tgt := 27) hx hb dX2_placeAfterSnail_19 (by decide) (fun c_19 => ?_) (fun c_19 => ?_)
      · refine lv_iconst (v := (-1)) hx hb dX2_placeAfterSnail_27 (by decide) ?_
        exact ret_I C hP hS (nar_i _) rfl (by unfold f_X2_placeAfterSnail; rw [if_neg c_3, if_neg c_11, if_neg c_19]) rfl rfl dX2_placeAfterSnail_28
      · refine lv_bipush (v := 6) hx hb dX2_placeAfterSnail_22 (by decide) ?_
        refine lv_goto (tgt := 28) hx hb dX2_placeAfterSnail_24 (by decide) ?_
        exact ret_I C hP hS (nar_i _) rfl (by unfold f_X2_placeAfterSnail; rw [if_neg c_3, if_neg c_11, if_pos c_19]) rfl rfl dX2_placeAfterSnail_28
    · refine lv_iconst (v := 4) hx hb dX2_placeAfterSnail_14 (by decide) ?_
      exact ret_I C hP hS (nar_i _) rfl (by unfold f_X2_placeAfterSnail; rw [if_neg c_3, if_pos c_11]) rfl rfl dX2_placeAfterSnail_15
  · refine lv_iconst (v := 2) hx hb dX2_placeAfterSnail_6 (by decide) ?_
    exact ret_I C hP hS (nar_i _) rfl (by unfold f_X2_placeAfterSnail; rw [if_pos c_3]) rfl rfl dX2_placeAfterSnail_7

theorem cw_X2_placeAfter : cwSt yX2_placeAfter cX2_placeAfter 2 (some .int) 2 := ⟨(mA1 (i := 204) rfl rfl), (mA1 (i := 6) rfl rfl), (mA1 (i := 205) rfl rfl), by decide +kernel⟩
abbrev rm_X2_placeAfter : Room := { frames := 1, cells := 0, slots := 0, locals := 22 }
def f_X2_placeAfter  (x : Int32) (y : Int32) : Int32 :=
  if y = 59 then
    if (f_X2_mayEnd x) = 0 then
      (-1)
    else
      0
  else
    if x = 0 then
      if (f_X2_isBetween 48 y 51) = 0 then
        (-1)
      else
        1
    else
      if x = 1 then
        f_X2_placeAfterSnail y
      else
        if x = 2 then
          if (f_X2_isBetween 48 y 51) = 0 then
            (-1)
          else
            3
        else
          if x = 3 then
            if (f_X2_isBetween 48 y 51) = 0 then
              (-1)
            else
              3
          else
            if x = 4 then
              if y = 49 then
                5
              else
                if (f_X2_isBetween 50 y 57) = 0 then
                  (-1)
                else
                  6
            else
              if x = 5 then
                if (f_X2_isBetween 48 y 54) = 0 then
                  (-1)
                else
                  6
              else
                (-1)
set_option maxHeartbeats 4000000 in
set_option maxRecDepth 100000 in
theorem k_X2_placeAfter (l : Launch) (D : va_G) (cy : Nat → ClassId) (z : Nat) (o : Int64) (d : UInt64) (σ τ : Sg) (x : Int32) (y : Int32) : KI l yX2_placeAfter cX2_placeAfter 2 (some .int) rm_X2_placeAfter D cy z [.int x, .int y] o d σ τ (f_X2_placeAfter x y) σ τ := by
  refine met_of RX2 (plainFor_of_name (by decide)) rfl (Nat.le_of_ble_eq_true rfl) ?_
  intro p e s m args below meth c C hP hS ls hl
  obtain ⟨hx, hb, hr, hml, hown, hW, hlocks, hAm⟩ := id C
  have hl : lv_has ls 2 [(0, .int x), (1, .int y)] := hl
  refine lv_iload_n hx hb dX2_placeAfter_0 rfl (lv_at hl 1 rfl) ?_
  refine lv_bipush (v := 59) hx hb dX2_placeAfter_1 (by decide) ?_
  refine lv_icmp_ne (tgt := 19) hx hb dX2_placeAfter_3 (by decide) (fun c_3 => ?_) (fun c_3 => ?_)
  · refine lv_iload_n hx hb dX2_placeAfter_19 rfl (lv_at hl 0 rfl) ?_
    by_cases c_20_0 : x = 0
    · refine lv_tableIn (tgt := 60) hx hb dX2_placeAfter_20 (by rw [c_20_0]; decide) (by rw [c_20_0]; decide) (by rw [c_20_0]; rfl) (by decide) ?_
      refine lv_bipush (v := 48) hx hb dX2_placeAfter_60 (by decide) ?_
      refine lv_iload_n hx hb dX2_placeAfter_62 rfl (lv_at hl 1 rfl) ?_
      refine lv_bipush (v := 51) hx hb dX2_placeAfter_63 (by decide) ?_
      refine thn_I (run_S (As := [.int 48, .int y, .int 51]) (rest := []) C (k_X2_isBetween l D cy z o d σ τ 48 y 51) hP hS cw_X2_isBetween (mA1 (i := 209) rfl rfl) ⟨rfl, rfl⟩ ⟨Nat.le_of_ble_eq_true rfl, Nat.le_of_ble_eq_true rfl⟩ rfl (Nat.le_of_ble_eq_true rfl) hl.1 ⟨Nat.zero_le _, Nat.zero_le _⟩ dX2_placeAfter_65) hS (fun H locs hP hS => ?_)
      refine lv_if_eq (tgt := 75) hx hb dX2_placeAfter_68 (by decide) (fun c_68 => ?_) (fun c_68 => ?_)
      · refine lv_iconst (v := (-1)) hx hb dX2_placeAfter_75 (by decide) ?_
        exact ret_I C hP hS (nar_i _) rfl (by unfold f_X2_placeAfter; rw [if_neg c_3, if_pos c_20_0, if_pos c_68]) rfl rfl dX2_placeAfter_76
      · refine lv_iconst (v := 1) hx hb dX2_placeAfter_71 (by decide) ?_
        refine lv_goto (tgt := 76) hx hb dX2_placeAfter_72 (by decide) ?_
        exact ret_I C hP hS (nar_i _) rfl (by unfold f_X2_placeAfter; rw [if_neg c_3, if_pos c_20_0, if_neg c_68]) rfl rfl dX2_placeAfter_76
    · by_cases c_20_1 : x = 1
      · refine lv_tableIn (tgt := 77) hx hb dX2_placeAfter_20 (by rw [c_20_1]; decide) (by rw [c_20_1]; decide) (by rw [c_20_1]; rfl) (by decide) ?_
        refine lv_iload_n hx hb dX2_placeAfter_77 rfl (lv_at hl 1 rfl) ?_
        refine thn_I (run_S (As := [.int y]) (rest := []) C (k_X2_placeAfterSnail l D cy z o d σ τ y) hP hS cw_X2_placeAfterSnail (mA1 (i := 212) rfl rfl) ⟨rfl, rfl⟩ ⟨Nat.le_of_ble_eq_true rfl, Nat.le_of_ble_eq_true rfl⟩ rfl (Nat.le_of_ble_eq_true rfl) hl.1 ⟨Nat.zero_le _, Nat.zero_le _⟩ dX2_placeAfter_78) hS (fun H locs hP hS => ?_)
        exact ret_I C hP hS (nar_i _) rfl (by unfold f_X2_placeAfter; rw [if_neg c_3, if_neg c_20_0, if_pos c_20_1]) rfl rfl dX2_placeAfter_81
      · by_cases c_20_2 : x = 2
        · refine lv_tableIn (tgt := 82) hx hb dX2_placeAfter_20 (by rw [c_20_2]; decide) (by rw [c_20_2]; decide) (by rw [c_20_2]; rfl) (by decide) ?_
          refine lv_bipush (v := 48) hx hb dX2_placeAfter_82 (by decide) ?_
          refine lv_iload_n hx hb dX2_placeAfter_84 rfl (lv_at hl 1 rfl) ?_
          refine lv_bipush (v := 51) hx hb dX2_placeAfter_85 (by decide) ?_
          refine thn_I (run_S (As := [.int 48, .int y, .int 51]) (rest := []) C (k_X2_isBetween l D cy z o d σ τ 48 y 51) hP hS cw_X2_isBetween (mA1 (i := 209) rfl rfl) ⟨rfl, rfl⟩ ⟨Nat.le_of_ble_eq_true rfl, Nat.le_of_ble_eq_true rfl⟩ rfl (Nat.le_of_ble_eq_true rfl) hl.1 ⟨Nat.zero_le _, Nat.zero_le _⟩ dX2_placeAfter_87) hS (fun H locs hP hS => ?_)
          refine lv_if_eq (tgt := 97) hx hb dX2_placeAfter_90 (by decide) (fun c_90 => ?_) (fun c_90 => ?_)
          · refine lv_iconst (v := (-1)) hx hb dX2_placeAfter_97 (by decide) ?_
            exact ret_I C hP hS (nar_i _) rfl (by unfold f_X2_placeAfter; rw [if_neg c_3, if_neg c_20_0, if_neg c_20_1, if_pos c_20_2, if_pos c_90]) rfl rfl dX2_placeAfter_98
          · refine lv_iconst (v := 3) hx hb dX2_placeAfter_93 (by decide) ?_
            refine lv_goto (tgt := 98) hx hb dX2_placeAfter_94 (by decide) ?_
            exact ret_I C hP hS (nar_i _) rfl (by unfold f_X2_placeAfter; rw [if_neg c_3, if_neg c_20_0, if_neg c_20_1, if_pos c_20_2, if_neg c_90]) rfl rfl dX2_placeAfter_98
        · by_cases c_20_3 : x = 3
          · refine lv_tableIn (tgt := 82) hx hb dX2_placeAfter_20 (by rw [c_20_3]; decide) (by rw [c_20_3]; decide) (by rw [c_20_3]; rfl) (by decide) ?_
            refine lv_bipush (v := 48) hx hb dX2_placeAfter_82 (by decide) ?_
            refine lv_iload_n hx hb dX2_placeAfter_84 rfl (lv_at hl 1 rfl) ?_
            refine lv_bipush (v := 51) hx hb dX2_placeAfter_85 (by decide) ?_
            refine thn_I (run_S (As := [.int 48, .int y, .int 51]) (rest := []) C (k_X2_isBetween l D cy z o d σ τ 48 y 51) hP hS cw_X2_isBetween (mA1 (i := 209) rfl rfl) ⟨rfl, rfl⟩ ⟨Nat.le_of_ble_eq_true rfl, Nat.le_of_ble_eq_true rfl⟩ rfl (Nat.le_of_ble_eq_true rfl) hl.1 ⟨Nat.zero_le _, Nat.zero_le _⟩ dX2_placeAfter_87) hS (fun H locs hP hS => ?_)
            refine lv_if_eq (tgt := 97) hx hb dX2_placeAfter_90 (by decide) (fun c_90 => ?_) (fun c_90 => ?_)
            · refine lv_iconst (v := (-1)) hx hb dX2_placeAfter_97 (by decide) ?_
              exact ret_I C hP hS (nar_i _) rfl (by unfold f_X2_placeAfter; rw [if_neg c_3, if_neg c_20_0, if_neg c_20_1, if_neg c_20_2, if_pos c_20_3, if_pos c_90]) rfl rfl dX2_placeAfter_98
            · refine lv_iconst (v := 3) hx hb dX2_placeAfter_93 (by decide) ?_
              refine lv_goto (tgt := 98) hx hb dX2_placeAfter_94 (by decide) ?_
              exact ret_I C hP hS (nar_i _) rfl (by unfold f_X2_placeAfter; rw [if_neg c_3, if_neg c_20_0, if_neg c_20_1, if_neg c_20_2, if_pos c_20_3, if_neg c_90]) rfl rfl dX2_placeAfter_98
          · by_cases c_20_4 : x = 4
            · refine lv_tableIn (tgt := 99) hx hb dX2_placeAfter_20 (by rw [c_20_4]; decide) (by rw [c_20_4]; decide) (by rw [c_20_4]; rfl) (by decide) ?_
              refine lv_iload_n hx hb dX2_placeAfter_99 rfl (lv_at hl 1 rfl) ?_
              refine lv_bipush (v := 49) hx hb dX2_placeAfter_100 (by decide) ?_
              refine lv_icmp_ne (tgt := 107) hx hb dX2_placeAfter_102 (by decide) (fun c_102 => ?_) (fun c_102 => ?_)
              · refine lv_bipush (v := 50) hx hb dX2_placeAfter_107 (by decide) ?_
                refine lv_iload_n hx hb dX2_placeAfter_109 rfl (lv_at hl 1 rfl) ?_
                refine lv_bipush (v := 57) hx hb dX2_placeAfter_110 (by decide) ?_
                refine thn_I (run_S (As := [.int 50, .int y, .int 57]) (rest := []) C (k_X2_isBetween l D cy z o d σ τ 50 y 57) hP hS cw_X2_isBetween (mA1 (i := 209) rfl rfl) ⟨rfl, rfl⟩ ⟨Nat.le_of_ble_eq_true rfl, Nat.le_of_ble_eq_true rfl⟩ rfl (Nat.le_of_ble_eq_true rfl) hl.1 ⟨Nat.zero_le _, Nat.zero_le _⟩ dX2_placeAfter_112) hS (fun H locs hP hS => ?_)
                refine lv_if_eq (tgt := 123) hx hb dX2_placeAfter_115 (by decide) (fun c_115 => ?_) (fun c_115 => ?_)
                · refine lv_iconst (v := (-1)) hx hb dX2_placeAfter_123 (by decide) ?_
                  exact ret_I C hP hS (nar_i _) rfl (by unfold f_X2_placeAfter; rw [if_neg c_3, if_neg c_20_0, if_neg c_20_1, if_neg c_20_2, if_neg c_20_3, if_pos c_20_4, if_neg c_102, if_pos c_115]) rfl rfl dX2_placeAfter_124
                · refine lv_bipush (v := 6) hx hb dX2_placeAfter_118 (by decide) ?_
                  refine lv_goto (tgt := 124) hx hb dX2_placeAfter_120 (by decide) ?_
                  exact ret_I C hP hS (nar_i _) rfl (by unfold f_X2_placeAfter; rw [if_neg c_3, if_neg c_20_0, if_neg c_20_1, if_neg c_20_2, if_neg c_20_3, if_pos c_20_4, if_neg c_102, if_neg c_115]) rfl rfl dX2_placeAfter_124
              · refine lv_iconst (v := 5) hx hb dX2_placeAfter_105 (by decide) ?_
                exact ret_I C hP hS (nar_i _) rfl (by unfold f_X2_placeAfter; rw [if_neg c_3, if_neg c_20_0, if_neg c_20_1, if_neg c_20_2, if_neg c_20_3, if_pos c_20_4, if_pos c_102]) rfl rfl dX2_placeAfter_106
            · by_cases c_20_5 : x = 5
              · refine lv_tableIn (tgt := 125) hx hb dX2_placeAfter_20 (by rw [c_20_5]; decide) (by rw [c_20_5]; decide) (by rw [c_20_5]; rfl) (by decide) ?_
                refine lv_bipush (v := 48) hx hb dX2_placeAfter_125 (by decide) ?_
                refine lv_iload_n hx hb dX2_placeAfter_127 rfl (lv_at hl 1 rfl) ?_
                refine lv_bipush (v := 54) hx hb dX2_placeAfter_128 (by decide) ?_
                refine thn_I (run_S (As := [.int 48, .int y, .int 54]) (rest := []) C (k_X2_isBetween l D cy z o d σ τ 48 y 54) hP hS cw_X2_isBetween (mA1 (i := 209) rfl rfl) ⟨rfl, rfl⟩ ⟨Nat.le_of_ble_eq_true rfl, Nat.le_of_ble_eq_true rfl⟩ rfl (Nat.le_of_ble_eq_true rfl) hl.1 ⟨Nat.zero_le _, Nat.zero_le _⟩ dX2_placeAfter_130) hS (fun H locs hP hS => ?_)
                refine lv_if_eq (tgt := 141) hx hb dX2_placeAfter_133 (by decide) (fun c_133 => ?_) (fun c_133 => ?_)
                · refine lv_iconst (v := (-1)) hx hb dX2_placeAfter_141 (by decide) ?_
                  exact ret_I C hP hS (nar_i _) rfl (by unfold f_X2_placeAfter; rw [if_neg c_3, if_neg c_20_0, if_neg c_20_1, if_neg c_20_2, if_neg c_20_3, if_neg c_20_4, if_pos c_20_5, if_pos c_133]) rfl rfl dX2_placeAfter_142
                · refine lv_bipush (v := 6) hx hb dX2_placeAfter_136 (by decide) ?_
                  refine lv_goto (tgt := 142) hx hb dX2_placeAfter_138 (by decide) ?_
                  exact ret_I C hP hS (nar_i _) rfl (by unfold f_X2_placeAfter; rw [if_neg c_3, if_neg c_20_0, if_neg c_20_1, if_neg c_20_2, if_neg c_20_3, if_neg c_20_4, if_pos c_20_5, if_neg c_133]) rfl rfl dX2_placeAfter_142
              · refine lv_tableOut (tgt := 143) hx hb dX2_placeAfter_20 (tab_out6 (lv_neT c_20_0 (k := 0) (a := 0) rfl) (lv_neT c_20_1 (k := 1) (a := 1) rfl) (lv_neT c_20_2 (k := 2) (a := 2) rfl) (lv_neT c_20_3 (k := 3) (a := 3) rfl) (lv_neT c_20_4 (k := 4) (a := 4) rfl) (lv_neT c_20_5 (k := 5) (a := 5) rfl)) (by decide) ?_
                refine lv_iconst (v := (-1)) hx hb dX2_placeAfter_143 (by decide) ?_
                exact ret_I C hP hS (nar_i _) rfl (by unfold f_X2_placeAfter; rw [if_neg c_3, if_neg c_20_0, if_neg c_20_1, if_neg c_20_2, if_neg c_20_3, if_neg c_20_4, if_neg c_20_5]) rfl rfl dX2_placeAfter_144
  · refine lv_iload_n hx hb dX2_placeAfter_6 rfl (lv_at hl 0 rfl) ?_
    refine thn_I (run_S (As := [.int x]) (rest := []) C (k_X2_mayEnd l D cy z o d σ τ x) hP hS cw_X2_mayEnd (mA1 (i := 206) rfl rfl) ⟨rfl, rfl⟩ ⟨Nat.le_of_ble_eq_true rfl, Nat.le_of_ble_eq_true rfl⟩ rfl (Nat.le_of_ble_eq_true rfl) hl.1 ⟨Nat.zero_le _, Nat.zero_le _⟩ dX2_placeAfter_7) hS (fun H locs hP hS => ?_)
    refine lv_if_eq (tgt := 17) hx hb dX2_placeAfter_10 (by decide) (fun c_10 => ?_) (fun c_10 => ?_)
    · refine lv_iconst (v := (-1)) hx hb dX2_placeAfter_17 (by decide) ?_
      exact ret_I C hP hS (nar_i _) rfl (by unfold f_X2_placeAfter; rw [if_pos c_3, if_pos c_10]) rfl rfl dX2_placeAfter_18
    · refine lv_iconst (v := 0) hx hb dX2_placeAfter_13 (by decide) ?_
      refine lv_goto (tgt := 18) hx hb dX2_placeAfter_14 (by decide) ?_
      exact ret_I C hP hS (nar_i _) rfl (by unfold f_X2_placeAfter; rw [if_pos c_3, if_neg c_10]) rfl rfl dX2_placeAfter_18
end
section
theorem cw_X4_ring : cwSt yX4_ring cX4_ring 1 (some .int) 1 := ⟨(mA2 (i := 126) rfl rfl), (mA1 (i := 3) rfl rfl), (mA2 (i := 127) rfl rfl), by decide +kernel⟩
abbrev rm_X4_ring : Room := { frames := 0, cells := 0, slots := 0, locals := 0 }
def f_X4_ring  (x : Int32) : Int32 :=
  x ^^^ (x >>> (1 &&& 31))
set_option maxHeartbeats 4000000 in
set_option maxRecDepth 100000 in
theorem k_X4_ring (l : Launch) (D : va_G) (cy : Nat → ClassId) (z : Nat) (o : Int64) (d : UInt64) (σ τ : Sg) (x : Int32) : KI l yX4_ring cX4_ring 1 (some .int) rm_X4_ring D cy z [.int x] o d σ τ (f_X4_ring x) σ τ := by
  refine met_of RX4 (plainFor_of_name (by decide)) rfl (Nat.le_of_ble_eq_true rfl) ?_
  intro p e s m args below meth c C hP hS ls hl
  obtain ⟨hx, hb, hr, hml, hown, hW, hlocks, hAm⟩ := id C
  have hl : lv_has ls 1 [(0, .int x)] := hl
  refine lv_iload_n hx hb dX4_ring_0 rfl (lv_at hl 0 rfl) ?_
  refine lv_iload_n hx hb dX4_ring_1 rfl (lv_at hl 0 rfl) ?_
  refine lv_iconst (v := 1) hx hb dX4_ring_2 (by decide) ?_
  refine lv_ishr hx hb dX4_ring_3 ?_
  refine lv_ixor hx hb dX4_ring_4 ?_
  exact ret_I C hP hS (nar_i _) rfl rfl rfl rfl dX4_ring_5

theorem cw_X4_neighbour : cwVt yX4_neighbour cX4_neighbour 2 (some .int) 4 1 := ⟨(mA2 (i := 122) rfl rfl), (mA2 (i := 123) rfl rfl), (mA1 (i := 3) rfl rfl), (mA2 (i := 124) rfl rfl), by decide +kernel, ⟨_, rfl, rfl⟩, by decide⟩
abbrev rm_X4_neighbour : Room := { frames := 1, cells := 0, slots := 0, locals := 20 }
def f_X4_neighbour (σ : Sg) (k : Nat) (x : Int32) : Int32 :=
  f_X4_ring (((f_X4_ring (σ k 1)) + x) &&& 3)
set_option maxHeartbeats 4000000 in
set_option maxRecDepth 100000 in
theorem k_X4_neighbour (l : Launch) (D : va_G) (cy : Nat → ClassId) (z : Nat) (o : Int64) (d : UInt64) (σ τ : Sg) {k : Nat} (hk : kd k = 4) (x : Int32) : KI l yX4_neighbour cX4_neighbour 2 (some .int) rm_X4_neighbour D cy z [.ref (z + k), .int x] o d σ τ (f_X4_neighbour σ k x) σ τ := by
  refine met_of RX4 (plainFor_of_name (by decide)) rfl (Nat.le_of_ble_eq_true rfl) ?_
  intro p e s m args below meth c C hP hS ls hl
  obtain ⟨hx, hb, hr, hml, hown, hW, hlocks, hAm⟩ := id C
  have hl : lv_has ls 2 [(0, .ref (z + k)), (1, .int x)] := hl
  refine lv_aload_n hx hb dX4_neighbour_0 rfl (lv_at hl 0 rfl) ?_
  refine gf_X4_18 C hP hk dX4_neighbour_1 ?_
  refine thn_I (run_S (As := [.int (σ k 1)]) (rest := []) C (k_X4_ring l D cy z o d σ τ (σ k 1)) hP hS cw_X4_ring (mA2 (i := 125) rfl rfl) ⟨rfl, rfl⟩ ⟨Nat.le_of_ble_eq_true rfl, Nat.le_of_ble_eq_true rfl⟩ rfl (Nat.le_of_ble_eq_true rfl) hl.1 ⟨Nat.zero_le _, Nat.zero_le _⟩ dX4_neighbour_4) hS (fun H locs hP hS => ?_)
  refine lv_iload_n hx hb dX4_neighbour_7 rfl (lv_at hl 1 rfl) ?_
  refine lv_iadd hx hb dX4_neighbour_8 ?_
  refine lv_iconst (v := 3) hx hb dX4_neighbour_9 (by decide) ?_
  refine lv_iand hx hb dX4_neighbour_10 ?_
  refine thn_I (run_S (As := [.int (((f_X4_ring (σ k 1)) + x) &&& 3)]) (rest := []) C (k_X4_ring l D cy z o d σ τ (((f_X4_ring (σ k 1)) + x) &&& 3)) hP hS cw_X4_ring (mA2 (i := 125) rfl rfl) ⟨rfl, rfl⟩ ⟨Nat.le_of_ble_eq_true rfl, Nat.le_of_ble_eq_true rfl⟩ rfl (Nat.le_of_ble_eq_true rfl) hl.1 ⟨Nat.zero_le _, Nat.zero_le _⟩ dX4_neighbour_11) hS (fun H locs hP hS => ?_)
  exact ret_I C hP hS (nar_i _) rfl rfl rfl rfl dX4_neighbour_14

theorem cw_X4_stepUnder : cwVt yX4_stepUnder cX4_stepUnder 3 (some .int) 4 2 := ⟨(mA2 (i := 118) rfl rfl), (mA2 (i := 119) rfl rfl), (mA1 (i := 3) rfl rfl), (mA2 (i := 120) rfl rfl), by decide +kernel, ⟨_, rfl, rfl⟩, by decide⟩
abbrev rm_X4_stepUnder : Room := { frames := 2, cells := 0, slots := 0, locals := 41 }
def f_X4_stepUnder (σ : Sg) (k : Nat) (x : Int32) (y : Int32) : Int32 :=
  if ((σ k 1) ^^^ y) = 3 then
    if x = 1 then
      2 * (σ k 3)
    else
      0
  else
    if y = (σ k 1) then
      0
    else
      if y = (f_X4_neighbour σ k 1) then
        1
      else
        (-1)
set_option maxHeartbeats 4000000 in
set_option maxRecDepth 100000 in
theorem k_X4_stepUnder (l : Launch) (D : va_G) (cy : Nat → ClassId) (z : Nat) (o : Int64) (d : UInt64) (σ τ : Sg) {k : Nat} (hk : kd k = 4) (x : Int32) (y : Int32) : KI l yX4_stepUnder cX4_stepUnder 3 (some .int) rm_X4_stepUnder D cy z [.ref (z + k), .int x, .int y] o d σ τ (f_X4_stepUnder σ k x y) σ τ := by
  refine met_of RX4 (plainFor_of_name (by decide)) rfl (Nat.le_of_ble_eq_true rfl) ?_
  intro p e s m args below meth c C hP hS ls hl
  obtain ⟨hx, hb, hr, hml, hown, hW, hlocks, hAm⟩ := id C
  have hl : lv_has ls 3 [(0, .ref (z + k)), (1, .int x), (2, .int y)] := hl
  refine lv_aload_n hx hb dX4_stepUnder_0 rfl (lv_at hl 0 rfl) ?_
  refine gf_X4_18 C hP hk dX4_stepUnder_1 ?_
  refine lv_iload_n hx hb dX4_stepUnder_4 rfl (lv_at hl 2 rfl) ?_
  refine lv_ixor hx hb dX4_stepUnder_5 ?_
  refine lv_iconst (v := 3) hx hb dX4_stepUnder_6 (by decide) ?_
  refine lv_icmp_ne (tgt := 26) hx hb dX4_stepUnder_7 (by decide) (fun c_7 => ?_) (fun c_7 => ?_)
  · refine lv_iload_n hx hb dX4_stepUnder_26 rfl (lv_at hl 2 rfl) ?_
    refine lv_aload_n hx hb dX4_stepUnder_27 rfl (lv_at hl 0 rfl) ?_
    refine gf_X4_18 C hP hk dX4_stepUnder_28 ?_
    refine lv_icmp_ne (tgt := 36) hx hb dX4_stepUnder_31 (by decide) (fun c_31 => ?_) (fun c_31 => ?_)
    · refine lv_iload_n hx hb dX4_stepUnder_36 rfl (lv_at hl 2 rfl) ?_
      refine lv_aload_n hx hb dX4_stepUnder_37 rfl (lv_at hl 0 rfl) ?_
      refine lv_iconst (v := 1) hx hb dX4_stepUnder_38 (by decide) ?_
      refine thn_I (run_V (As := [.int 1]) (rest := [.int y]) C (k_X4_neighbour l D cy z o d σ τ hk 1) hP hS cw_X4_neighbour (mA2 (i := 121) rfl rfl) hk ⟨rfl, rfl⟩ ⟨Nat.le_of_ble_eq_true rfl, Nat.le_of_ble_eq_true rfl⟩ rfl (Nat.le_of_ble_eq_true rfl) hl.1 ⟨Nat.zero_le _, Nat.zero_le _⟩ dX4_stepUnder_39) hS (fun H locs hP hS => ?_)
      refine lv_icmp_ne (tgt := 49) hx hb dX4_stepUnder_42 (by decide) (fun c_42 => ?_) (fun c_42 => ?_)
      · refine lv_iconst (v := (-1)) hx hb dX4_stepUnder_49 (by decide) ?_
        exact ret_I C hP hS (nar_i _) rfl (by unfold f_X4_stepUnder; rw [if_neg c_7, if_neg c_31, if_neg c_42]) rfl rfl dX4_stepUnder_50
      · refine lv_iconst (v := 1) hx hb dX4_stepUnder_45 (by decide) ?_
        refine lv_goto (tgt := 50) hx hb dX4_stepUnder_46 (by decide) ?_
        exact ret_I C hP hS (nar_i _) rfl (by unfold f_X4_stepUnder; rw [if_neg c_7, if_neg c_31, if_pos c_42]) rfl rfl dX4_stepUnder_50
    · refine lv_iconst (v := 0) hx hb dX4_stepUnder_34 (by decide) ?_
      exact ret_I C hP hS (nar_i _) rfl (by unfold f_X4_stepUnder; rw [if_neg c_7, if_pos c_31]) rfl rfl dX4_stepUnder_35
  · refine lv_iload_n hx hb dX4_stepUnder_10 rfl (lv_at hl 1 rfl) ?_
    refine lv_iconst (v := 1) hx hb dX4_stepUnder_11 (by decide) ?_
    refine lv_icmp_ne (tgt := 24) hx hb dX4_stepUnder_12 (by decide) (fun c_12 => ?_) (fun c_12 => ?_)
    · refine lv_iconst (v := 0) hx hb dX4_stepUnder_24 (by decide) ?_
      exact ret_I C hP hS (nar_i _) rfl (by unfold f_X4_stepUnder; rw [if_pos c_7, if_neg c_12]) rfl rfl dX4_stepUnder_25
    · refine lv_iconst (v := 2) hx hb dX4_stepUnder_15 (by decide) ?_
      refine lv_aload_n hx hb dX4_stepUnder_16 rfl (lv_at hl 0 rfl) ?_
      refine gf_X4_26 C hP hk dX4_stepUnder_17 ?_
      refine lv_imul hx hb dX4_stepUnder_20 ?_
      refine lv_goto (tgt := 25) hx hb dX4_stepUnder_21 (by decide) ?_
      exact ret_I C hP hS (nar_i _) rfl (by unfold f_X4_stepUnder; rw [if_pos c_7, if_pos c_12]) rfl rfl dX4_stepUnder_25

theorem cw_X4_hasRoom : cwVt yX4_hasRoom cX4_hasRoom 3 (some .boolean) 4 2 := ⟨(mA2 (i := 135) rfl rfl), (mA2 (i := 136) rfl rfl), (mA1 (i := 3) rfl rfl), (mA2 (i := 137) rfl rfl), by decide +kernel, ⟨_, rfl, rfl⟩, by decide⟩
abbrev rm_X4_hasRoom : Room := { frames := 0, cells := 0, slots := 0, locals := 0 }
def f_X4_hasRoom (σ : Sg) (k : Nat) (x : Int32) (y : Int32) : Int32 :=
  if 1000000000 < ((σ k 11) + x) then
    0
  else
    if 1000000000 < ((σ k 10) + y) then
      0
    else
      1
set_option maxHeartbeats 4000000 in
set_option maxRecDepth 100000 in
theorem k_X4_hasRoom (l : Launch) (D : va_G) (cy : Nat → ClassId) (z : Nat) (o : Int64) (d : UInt64) (σ τ : Sg) {k : Nat} (hk : kd k = 4) (x : Int32) (y : Int32) : KI l yX4_hasRoom cX4_hasRoom 3 (some .boolean) rm_X4_hasRoom D cy z [.ref (z + k), .int x, .int y] o d σ τ (f_X4_hasRoom σ k x y) σ τ := by
  refine met_of RX4 (plainFor_of_name (by decide)) rfl (Nat.le_of_ble_eq_true rfl) ?_
  intro p e s m args below meth c C hP hS ls hl
  obtain ⟨hx, hb, hr, hml, hown, hW, hlocks, hAm⟩ := id C
  have hl : lv_has ls 3 [(0, .ref (z + k)), (1, .int x), (2, .int y)] := hl
  refine lv_aload_n hx hb dX4_hasRoom_0 rfl (lv_at hl 0 rfl) ?_
  refine gf_X4_32 C hP hk dX4_hasRoom_1 ?_
  refine lv_iload_n hx hb dX4_hasRoom_4 rfl (lv_at hl 1 rfl) ?_
  refine lv_iadd hx hb dX4_hasRoom_5 ?_
  refine lv_ldc (v := 1000000000) hx hb hown (hW _ (mA2 (i := 138) rfl rfl)) dX4_hasRoom_6 ?_
  refine lv_icmp_gt (tgt := 26) hx hb dX4_hasRoom_8 (by decide) (fun c_8 => ?_) (fun c_8 => ?_)
  · refine lv_iconst (v := 0) hx hb dX4_hasRoom_26 (by decide) ?_
    exact ret_I C hP hS nar_z0 rfl (by unfold f_X4_hasRoom; rw [if_pos c_8]) rfl rfl dX4_hasRoom_27
  · refine lv_aload_n hx hb dX4_hasRoom_11 rfl (lv_at hl 0 rfl) ?_
    refine gf_X4_36 C hP hk dX4_hasRoom_12 ?_
    refine lv_iload_n hx hb dX4_hasRoom_15 rfl (lv_at hl 2 rfl) ?_
    refine lv_iadd hx hb dX4_hasRoom_16 ?_
    refine lv_ldc (v := 1000000000) hx hb hown (hW _ (mA2 (i := 138) rfl rfl)) dX4_hasRoom_17 ?_
    refine lv_icmp_gt (tgt := 26) hx hb dX4_hasRoom_19 (by decide) (fun c_19 => ?_) (fun c_19 => ?_)
    · refine lv_iconst (v := 0) hx hb dX4_hasRoom_26 (by decide) ?_
      exact ret_I C hP hS nar_z0 rfl (by unfold f_X4_hasRoom; rw [if_neg c_8, if_pos c_19]) rfl rfl dX4_hasRoom_27
    · refine lv_iconst (v := 1) hx hb dX4_hasRoom_22 (by decide) ?_
      refine lv_goto (tgt := 27) hx hb dX4_hasRoom_23 (by decide) ?_
      exact ret_I C hP hS nar_z1 rfl (by unfold f_X4_hasRoom; rw [if_neg c_8, if_neg c_19]) rfl rfl dX4_hasRoom_27
theorem nz_X4_hasRoom (σ : Sg) (k : Nat) (x : Int32) (y : Int32) : narrow .boolean (.int (f_X4_hasRoom σ k x y)) = .int (f_X4_hasRoom σ k x y) := by
  unfold f_X4_hasRoom
  repeat' split
  all_goals first | exact nar_z1 | exact nar_z0

theorem cw_X4_book : cwVt yX4_book cX4_book 3 none 4 2 := ⟨(mA2 (i := 186) rfl rfl), (mA0 (i := 6) rfl rfl), (mA1 (i := 3) rfl rfl), (mA2 (i := 187) rfl rfl), by decide +kernel, ⟨_, rfl, rfl⟩, by decide⟩
abbrev rm_X4_book : Room := { frames := 0, cells := 0, slots := 0, locals := 0 }
def s_X4_book (σ : Sg) (k : Nat) (x : Int32) (y : Int32) : Sg :=
  if x = 1 then
    up σ k 5 ((σ k 5) + y)
  else
    if x = 2 then
      up σ k 4 ((σ k 4) + y)
    else
      if x = 3 then
        up σ k 6 ((σ k 6) + y)
      else
        σ
set_option maxHeartbeats 4000000 in
set_option maxRecDepth 100000 in
theorem k_X4_book (l : Launch) (D : va_G) (cy : Nat → ClassId) (z : Nat) (o : Int64) (d : UInt64) (σ τ : Sg) {k : Nat} (hk : kd k = 4) (x : Int32) (y : Int32) : KV l yX4_book cX4_book 3 rm_X4_book D cy z [.ref (z + k), .int x, .int y] o d σ τ (s_X4_book σ k x y) τ := by
  refine met_of RX4 (plainFor_of_name (by decide)) rfl (Nat.le_of_ble_eq_true rfl) ?_
  intro p e s m args below meth c C hP hS ls hl
  obtain ⟨hx, hb, hr, hml, hown, hW, hlocks, hAm⟩ := id C
  have hl : lv_has ls 3 [(0, .ref (z + k)), (1, .int x), (2, .int y)] := hl
  refine lv_iload_n hx hb dX4_book_0 rfl (lv_at hl 1 rfl) ?_
  by_cases c_1_1 : x = 1
  · refine lv_tableIn (tgt := 41) hx hb dX4_book_1 (by rw [c_1_1]; decide) (by rw [c_1_1]; decide) (by rw [c_1_1]; rfl) (by decide) ?_
    refine lv_aload_n hx hb dX4_book_41 rfl (lv_at hl 0 rfl) ?_
    refine lv_dup hx hb dX4_book_42 rfl ?_
    refine gf_X4_83 C hP hk dX4_book_43 ?_
    refine lv_iload_n hx hb dX4_book_46 rfl (lv_at hl 2 rfl) ?_
    refine lv_iadd hx hb dX4_book_47 ?_
    refine pf_X4_83 C hP hS hk dX4_book_48 (fun H locs hP hS => ?_)
    refine lv_goto (tgt := 67) hx hb dX4_book_51 (by decide) ?_
    exact ret_V C hP hS (by unfold s_X4_book; rw [if_pos c_1_1]) rfl dX4_book_67
  · by_cases c_1_2 : x = 2
    · refine lv_tableIn (tgt := 28) hx hb dX4_book_1 (by rw [c_1_2]; decide) (by rw [c_1_2]; decide) (by rw [c_1_2]; rfl) (by decide) ?_
      refine lv_aload_n hx hb dX4_book_28 rfl (lv_at hl 0 rfl) ?_
      refine lv_dup hx hb dX4_book_29 rfl ?_
      refine gf_X4_80 C hP hk dX4_book_30 ?_
      refine lv_iload_n hx hb dX4_book_33 rfl (lv_at hl 2 rfl) ?_
      refine lv_iadd hx hb dX4_book_34 ?_
      refine pf_X4_80 C hP hS hk dX4_book_35 (fun H locs hP hS => ?_)
      refine lv_goto (tgt := 67) hx hb dX4_book_38 (by decide) ?_
      exact ret_V C hP hS (by unfold s_X4_book; rw [if_neg c_1_1, if_pos c_1_2]) rfl dX4_book_67
    · by_cases c_1_3 : x = 3
      · refine lv_tableIn (tgt := 54) hx hb dX4_book_1 (by rw [c_1_3]; decide) (by rw [c_1_3]; decide) (by rw [c_1_3]; rfl) (by decide) ?_
        refine lv_aload_n hx hb dX4_book_54 rfl (lv_at hl 0 rfl) ?_
        refine lv_dup hx hb dX4_book_55 rfl ?_
        refine gf_X4_86 C hP hk dX4_book_56 ?_
        refine lv_iload_n hx hb dX4_book_59 rfl (lv_at hl 2 rfl) ?_
        refine lv_iadd hx hb dX4_book_60 ?_
        refine pf_X4_86 C hP hS hk dX4_book_61 (fun H locs hP hS => ?_)
        refine lv_goto (tgt := 67) hx hb dX4_book_64 (by decide) ?_
        exact ret_V C hP hS (by unfold s_X4_book; rw [if_neg c_1_1, if_neg c_1_2, if_pos c_1_3]) rfl dX4_book_67
      · refine lv_tableOut (tgt := 67) hx hb dX4_book_1 (tab_out3b (lv_neT c_1_1 (k := 1) (a := 1) rfl) (lv_neT c_1_2 (k := 2) (a := 2) rfl) (lv_neT c_1_3 (k := 3) (a := 3) rfl)) (by decide) ?_
        exact ret_V C hP hS (by unfold s_X4_book; rw [if_neg c_1_1, if_neg c_1_2, if_neg c_1_3]) rfl dX4_book_67

theorem cw_X4_move : cwVt yX4_move cX4_move 4 none 4 3 := ⟨(mA2 (i := 182) rfl rfl), (mA0 (i := 5) rfl rfl), (mA1 (i := 3) rfl rfl), (mA2 (i := 183) rfl rfl), by decide +kernel, ⟨_, rfl, rfl⟩, by decide⟩
abbrev rm_X4_move : Room := { frames := 1, cells := 0, slots := 0, locals := 22 }
def s_X4_move (σ : Sg) (k : Nat) (x : Int32) (y : Int32) (w : Int32) : Sg :=
  if y = 0 then
    up (up (up (up (s_X4_book σ k ((σ k 1) ^^^ x) y) k 1 x) k 2 (((up (s_X4_book σ k ((σ k 1) ^^^ x) y) k 1 x) k 2) + y)) k 10 (((up (up (s_X4_book σ k ((σ k 1) ^^^ x) y) k 1 x) k 2 (((up (s_X4_book σ k ((σ k 1) ^^^ x) y) k 1 x) k 2) + y)) k 10) + (ab y))) k 11 (((up (up (up (s_X4_book σ k ((σ k 1) ^^^ x) y) k 1 x) k 2 (((up (s_X4_book σ k ((σ k 1) ^^^ x) y) k 1 x) k 2) + y)) k 10 (((up (up (s_X4_book σ k ((σ k 1) ^^^ x) y) k 1 x) k 2 (((up (s_X4_book σ k ((σ k 1) ^^^ x) y) k 1 x) k 2) + y)) k 10) + (ab y))) k 11) + w)
  else
    if y ≤ 0 then
      up (up (up (up (up (s_X4_book σ k ((σ k 1) ^^^ x) y) k 1 x) k 2 (((up (s_X4_book σ k ((σ k 1) ^^^ x) y) k 1 x) k 2) + y)) k 10 (((up (up (s_X4_book σ k ((σ k 1) ^^^ x) y) k 1 x) k 2 (((up (s_X4_book σ k ((σ k 1) ^^^ x) y) k 1 x) k 2) + y)) k 10) + (ab y))) k 11 (((up (up (up (s_X4_book σ k ((σ k 1) ^^^ x) y) k 1 x) k 2 (((up (s_X4_book σ k ((σ k 1) ^^^ x) y) k 1 x) k 2) + y)) k 10 (((up (up (s_X4_book σ k ((σ k 1) ^^^ x) y) k 1 x) k 2 (((up (s_X4_book σ k ((σ k 1) ^^^ x) y) k 1 x) k 2) + y)) k 10) + (ab y))) k 11) + w)) k 3 (-1)
    else
      up (up (up (up (up (s_X4_book σ k ((σ k 1) ^^^ x) y) k 1 x) k 2 (((up (s_X4_book σ k ((σ k 1) ^^^ x) y) k 1 x) k 2) + y)) k 10 (((up (up (s_X4_book σ k ((σ k 1) ^^^ x) y) k 1 x) k 2 (((up (s_X4_book σ k ((σ k 1) ^^^ x) y) k 1 x) k 2) + y)) k 10) + (ab y))) k 11 (((up (up (up (s_X4_book σ k ((σ k 1) ^^^ x) y) k 1 x) k 2 (((up (s_X4_book σ k ((σ k 1) ^^^ x) y) k 1 x) k 2) + y)) k 10 (((up (up (s_X4_book σ k ((σ k 1) ^^^ x) y) k 1 x) k 2 (((up (s_X4_book σ k ((σ k 1) ^^^ x) y) k 1 x) k 2) + y)) k 10) + (ab y))) k 11) + w)) k 3 1
set_option maxHeartbeats 4000000 in
set_option maxRecDepth 100000 in
theorem k_X4_move (l : Launch) (D : va_G) (cy : Nat → ClassId) (z : Nat) (o : Int64) (d : UInt64) (σ τ : Sg) {k : Nat} (hk : kd k = 4) (x : Int32) (y : Int32) (w : Int32) : KV l yX4_move cX4_move 4 rm_X4_move D cy z [.ref (z + k), .int x, .int y, .int w] o d σ τ (s_X4_move σ k x y w) τ := by
  refine met_of RX4 (plainFor_of_name (by decide)) rfl (Nat.le_of_ble_eq_true rfl) ?_
  intro p e s m args below meth c C hP hS ls hl
  obtain ⟨hx, hb, hr, hml, hown, hW, hlocks, hAm⟩ := id C
  have hl : lv_has ls 4 [(0, .ref (z + k)), (1, .int x), (2, .int y), (3, .int w)] := hl
  refine lv_aload_n hx hb dX4_move_0 rfl (lv_at hl 0 rfl) ?_
  refine lv_aload_n hx hb dX4_move_1 rfl (lv_at hl 0 rfl) ?_
  refine gf_X4_18 C hP hk dX4_move_2 ?_
  refine lv_iload_n hx hb dX4_move_5 rfl (lv_at hl 1 rfl) ?_
  refine lv_ixor hx hb dX4_move_6 ?_
  refine lv_iload_n hx hb dX4_move_7 rfl (lv_at hl 2 rfl) ?_
  refine thn_V (run_V (As := [.int ((σ k 1) ^^^ x), .int y]) (rest := []) C (k_X4_book l D cy z o d σ τ hk ((σ k 1) ^^^ x) y) hP hS cw_X4_book (mA2 (i := 184) rfl rfl) hk ⟨rfl, rfl⟩ ⟨Nat.le_of_ble_eq_true rfl, Nat.le_of_ble_eq_true rfl⟩ rfl (Nat.le_of_ble_eq_true rfl) hl.1 ⟨Nat.zero_le _, Nat.zero_le _⟩ dX4_move_8) hS (fun H locs hP hS => ?_)
  refine lv_aload_n hx hb dX4_move_11 rfl (lv_at hl 0 rfl) ?_
  refine lv_iload_n hx hb dX4_move_12 rfl (lv_at hl 1 rfl) ?_
  refine pf_X4_18 C hP hS hk dX4_move_13 (fun H locs hP hS => ?_)
  refine lv_aload_n hx hb dX4_move_16 rfl (lv_at hl 0 rfl) ?_
  refine lv_dup hx hb dX4_move_17 rfl ?_
  refine gf_X4_77 C hP hk dX4_move_18 ?_
  refine lv_iload_n hx hb dX4_move_21 rfl (lv_at hl 2 rfl) ?_
  refine lv_iadd hx hb dX4_move_22 ?_
  refine pf_X4_77 C hP hS hk dX4_move_23 (fun H locs hP hS => ?_)
  refine lv_aload_n hx hb dX4_move_26 rfl (lv_at hl 0 rfl) ?_
  refine lv_dup hx hb dX4_move_27 rfl ?_
  refine gf_X4_36 C hP hk dX4_move_28 ?_
  refine lv_iload_n hx hb dX4_move_31 rfl (lv_at hl 2 rfl) ?_
  refine g_abs C (mA2 (i := 188) rfl rfl) (Nat.le_of_ble_eq_true rfl) (Nat.le_of_ble_eq_true rfl) ⟨Nat.zero_le _, Nat.zero_le _⟩ hl.1 dX4_move_32 ?_
  refine lv_iadd hx hb dX4_move_35 ?_
  refine pf_X4_36 C hP hS hk dX4_move_36 (fun H locs hP hS => ?_)
  refine lv_aload_n hx hb dX4_move_39 rfl (lv_at hl 0 rfl) ?_
  refine lv_dup hx hb dX4_move_40 rfl ?_
  refine gf_X4_32 C hP hk dX4_move_41 ?_
  refine lv_iload_n hx hb dX4_move_44 rfl (lv_at hl 3 rfl) ?_
  refine lv_iadd hx hb dX4_move_45 ?_
  refine pf_X4_32 C hP hS hk dX4_move_46 (fun H locs hP hS => ?_)
  refine lv_iload_n hx hb dX4_move_49 rfl (lv_at hl 2 rfl) ?_
  refine lv_if_eq (tgt := 66) hx hb dX4_move_50 (by decide) (fun c_50 => ?_) (fun c_50 => ?_)
  · exact ret_V C hP hS (by unfold s_X4_move; rw [if_pos c_50]) rfl dX4_move_66
  · refine lv_aload_n hx hb dX4_move_53 rfl (lv_at hl 0 rfl) ?_
    refine lv_iload_n hx hb dX4_move_54 rfl (lv_at hl 2 rfl) ?_
    refine lv_if_le (tgt := 62) hx hb dX4_move_55 (by decide) (fun c_55 => ?_) (fun c_55 => ?_)
    · refine lv_iconst (v := (-1)) hx hb dX4_move_62 (by decide) ?_
      refine pf_X4_26 C hP hS hk dX4_move_63 (fun H locs hP hS => ?_)
      exact ret_V C hP hS (by unfold s_X4_move; rw [if_neg c_50, if_pos c_55]) rfl dX4_move_66
    · refine lv_iconst (v := 1) hx hb dX4_move_58 (by decide) ?_
      refine lv_goto (tgt := 63) hx hb dX4_move_59 (by decide) ?_
      refine pf_X4_26 C hP hS hk dX4_move_63 (fun H locs hP hS => ?_)
      exact ret_V C hP hS (by unfold s_X4_move; rw [if_neg c_50, if_neg c_55]) rfl dX4_move_66

theorem cw_X4_sense : cwVt yX4_sense cX4_sense 4 none 4 3 := ⟨(mA2 (i := 165) rfl rfl), (mA2 (i := 166) rfl rfl), (mA1 (i := 3) rfl rfl), (mA2 (i := 167) rfl rfl), by decide +kernel, ⟨_, rfl, rfl⟩, by decide⟩
abbrev rm_X4_sense : Room := { frames := 2, cells := 0, slots := 0, locals := 46 }
def s_X4_sense (σ : Sg) (k : Nat) (x : Int32) (y : Int32) (w : Int32) : Sg :=
  if ((σ k 1) ^^^ x) = 3 then
    s_X4_move (s_X1_add (up σ k 8 ((σ k 8) + 1)) (k + 1) y w ((up σ k 8 ((σ k 8) + 1)) k 1)) k x y w
  else
    s_X4_move (s_X1_add σ (k + 1) y w (σ k 1)) k x y w
set_option maxHeartbeats 4000000 in
set_option maxRecDepth 100000 in
theorem k_X4_sense (l : Launch) (D : va_G) (cy : Nat → ClassId) (z : Nat) (o : Int64) (d : UInt64) (σ τ : Sg) {k : Nat} (hk : kd k = 4) (x : Int32) (y : Int32) (w : Int32) : KV l yX4_sense cX4_sense 4 rm_X4_sense D cy z [.ref (z + k), .int x, .int y, .int w] o d σ τ (s_X4_sense σ k x y w) τ := by
  refine met_of RX4 (plainFor_of_name (by decide)) rfl (Nat.le_of_ble_eq_true rfl) ?_
  intro p e s m args below meth c C hP hS ls hl
  obtain ⟨hx, hb, hr, hml, hown, hW, hlocks, hAm⟩ := id C
  have hl : lv_has ls 4 [(0, .ref (z + k)), (1, .int x), (2, .int y), (3, .int w)] := hl
  refine lv_aload_n hx hb dX4_sense_0 rfl (lv_at hl 0 rfl) ?_
  refine gf_X4_18 C hP hk dX4_sense_1 ?_
  refine lv_iload_n hx hb dX4_sense_4 rfl (lv_at hl 1 rfl) ?_
  refine lv_ixor hx hb dX4_sense_5 ?_
  refine lv_iconst (v := 3) hx hb dX4_sense_6 (by decide) ?_
  refine lv_icmp_ne (tgt := 20) hx hb dX4_sense_7 (by decide) (fun c_7 => ?_) (fun c_7 => ?_)
  · refine lv_aload_n hx hb dX4_sense_20 rfl (lv_at hl 0 rfl) ?_
    refine gf_X4_12 C hP hk dX4_sense_21 ?_
    refine lv_iload_n hx hb dX4_sense_24 rfl (lv_at hl 2 rfl) ?_
    refine lv_iload_n hx hb dX4_sense_25 rfl (lv_at hl 3 rfl) ?_
    refine lv_aload_n hx hb dX4_sense_26 rfl (lv_at hl 0 rfl) ?_
    refine gf_X4_18 C hP hk dX4_sense_27 ?_
    refine thn_V (run_V (As := [.int y, .int w, .int (σ k 1)]) (rest := []) C (k_X1_add l D cy z o d σ τ (kd4_1 hk) y w (σ k 1)) hP hS cw_X1_add (mA2 (i := 168) rfl rfl) (kd4_1 hk) ⟨rfl, rfl⟩ ⟨Nat.le_of_ble_eq_true rfl, Nat.le_of_ble_eq_true rfl⟩ rfl (Nat.le_of_ble_eq_true rfl) hl.1 ⟨Nat.zero_le _, Nat.zero_le _⟩ dX4_sense_30) hS (fun H locs hP hS => ?_)
    refine lv_aload_n hx hb dX4_sense_33 rfl (lv_at hl 0 rfl) ?_
    refine lv_iload_n hx hb dX4_sense_34 rfl (lv_at hl 1 rfl) ?_
    refine lv_iload_n hx hb dX4_sense_35 rfl (lv_at hl 2 rfl) ?_
    refine lv_iload_n hx hb dX4_sense_36 rfl (lv_at hl 3 rfl) ?_
    refine thn_V (run_V (As := [.int x, .int y, .int w]) (rest := []) C (k_X4_move l D cy z o d (s_X1_add σ (k + 1) y w (σ k 1)) τ hk x y w) hP hS cw_X4_move (mA2 (i := 180) rfl rfl) hk ⟨rfl, rfl⟩ ⟨Nat.le_of_ble_eq_true rfl, Nat.le_of_ble_eq_true rfl⟩ rfl (Nat.le_of_ble_eq_true rfl) hl.1 ⟨Nat.zero_le _, Nat.zero_le _⟩ dX4_sense_37) hS (fun H locs hP hS => ?_)
    exact ret_V C hP hS (by unfold s_X4_sense; rw [if_neg c_7]) rfl dX4_sense_40
  · refine lv_aload_n hx hb dX4_sense_10 rfl (lv_at hl 0 rfl) ?_
    refine lv_dup hx hb dX4_sense_11 rfl ?_
    refine gf_X4_39 C hP hk dX4_sense_12 ?_
    refine lv_iconst (v := 1) hx hb dX4_sense_15 (by decide) ?_
    refine lv_iadd hx hb dX4_sense_16 ?_
    refine pf_X4_39 C hP hS hk dX4_sense_17 (fun H locs hP hS => ?_)
    refine lv_aload_n hx hb dX4_sense_20 rfl (lv_at hl 0 rfl) ?_
    refine gf_X4_12 C hP hk dX4_sense_21 ?_
    refine lv_iload_n hx hb dX4_sense_24 rfl (lv_at hl 2 rfl) ?_
    refine lv_iload_n hx hb dX4_sense_25 rfl (lv_at hl 3 rfl) ?_
    refine lv_aload_n hx hb dX4_sense_26 rfl (lv_at hl 0 rfl) ?_
    refine gf_X4_18 C hP hk dX4_sense_27 ?_
    refine thn_V (run_V (As := [.int y, .int w, .int ((up σ k 8 ((σ k 8) + 1)) k 1)]) (rest := []) C (k_X1_add l D cy z o d (up σ k 8 ((σ k 8) + 1)) τ (kd4_1 hk) y w ((up σ k 8 ((σ k 8) + 1)) k 1)) hP hS cw_X1_add (mA2 (i := 168) rfl rfl) (kd4_1 hk) ⟨rfl, rfl⟩ ⟨Nat.le_of_ble_eq_true rfl, Nat.le_of_ble_eq_true rfl⟩ rfl (Nat.le_of_ble_eq_true rfl) hl.1 ⟨Nat.zero_le _, Nat.zero_le _⟩ dX4_sense_30) hS (fun H locs hP hS => ?_)
    refine lv_aload_n hx hb dX4_sense_33 rfl (lv_at hl 0 rfl) ?_
    refine lv_iload_n hx hb dX4_sense_34 rfl (lv_at hl 1 rfl) ?_
    refine lv_iload_n hx hb dX4_sense_35 rfl (lv_at hl 2 rfl) ?_
    refine lv_iload_n hx hb dX4_sense_36 rfl (lv_at hl 3 rfl) ?_
    refine thn_V (run_V (As := [.int x, .int y, .int w]) (rest := []) C (k_X4_move l D cy z o d (s_X1_add (up σ k 8 ((σ k 8) + 1)) (k + 1) y w ((up σ k 8 ((σ k 8) + 1)) k 1)) τ hk x y w) hP hS cw_X4_move (mA2 (i := 180) rfl rfl) hk ⟨rfl, rfl⟩ ⟨Nat.le_of_ble_eq_true rfl, Nat.le_of_ble_eq_true rfl⟩ rfl (Nat.le_of_ble_eq_true rfl) hl.1 ⟨Nat.zero_le _, Nat.zero_le _⟩ dX4_sense_37) hS (fun H locs hP hS => ?_)
    exact ret_V C hP hS (by unfold s_X4_sense; rw [if_pos c_7]) rfl dX4_sense_40

theorem cw_X4_turnsOver : cwVt yX4_turnsOver cX4_turnsOver 2 (some .int) 4 1 := ⟨(mA3 (i := 144) rfl rfl), (mA3 (i := 145) rfl rfl), (mA1 (i := 3) rfl rfl), (mA3 (i := 146) rfl rfl), by decide +kernel, ⟨_, rfl, rfl⟩, by decide⟩
abbrev rm_X4_turnsOver : Room := { frames := 1, cells := 0, slots := 0, locals := 22 }
def f_X4_turnsOver (σ : Sg) (k : Nat) (x : Int32) : Int32 :=
  if 1 ≤ x then
    f_J9_floorDiv_7cf53 (σ k 2) x
  else
    0
set_option maxHeartbeats 4000000 in
set_option maxRecDepth 100000 in
theorem k_X4_turnsOver (l : Launch) (D : va_G) (cy : Nat → ClassId) (z : Nat) (o : Int64) (d : UInt64) (σ τ : Sg) {k : Nat} (hk : kd k = 4) (x : Int32) : KI l yX4_turnsOver cX4_turnsOver 2 (some .int) rm_X4_turnsOver D cy z [.ref (z + k), .int x] o d σ τ (f_X4_turnsOver σ k x) σ τ := by
  refine met_of RX4 (plainFor_of_name (by decide)) rfl (Nat.le_of_ble_eq_true rfl) ?_
  intro p e s m args below meth c C hP hS ls hl
  obtain ⟨hx, hb, hr, hml, hown, hW, hlocks, hAm⟩ := id C
  have hl : lv_has ls 2 [(0, .ref (z + k)), (1, .int x)] := hl
  refine lv_iload_n hx hb dX4_turnsOver_0 rfl (lv_at hl 1 rfl) ?_
  refine lv_iconst (v := 1) hx hb dX4_turnsOver_1 (by decide) ?_
  refine lv_icmp_ge (tgt := 9) hx hb dX4_turnsOver_2 (by decide) (fun c_2 => ?_) (fun c_2 => ?_)
  · refine lv_aload_n hx hb dX4_turnsOver_9 rfl (lv_at hl 0 rfl) ?_
    refine gf_X4_77 C hP hk dX4_turnsOver_10 ?_
    refine lv_iload_n hx hb dX4_turnsOver_13 rfl (lv_at hl 1 rfl) ?_
    refine thn_I (run_S (As := [.int (σ k 2), .int x]) (rest := []) C (k_J9_floorDiv_7cf53 l D cy z o d σ τ (σ k 2) x (ne0_le1 c_2)) hP hS cw_J9_floorDiv_7cf53 (mA3 (i := 147) rfl rfl) ⟨rfl, rfl⟩ ⟨Nat.le_of_ble_eq_true rfl, Nat.le_of_ble_eq_true rfl⟩ rfl (Nat.le_of_ble_eq_true rfl) hl.1 ⟨Nat.zero_le _, Nat.zero_le _⟩ dX4_turnsOver_14) hS (fun H locs hP hS => ?_)
    exact ret_I C hP hS (nar_i _) rfl (by unfold f_X4_turnsOver; rw [if_pos c_2]) rfl rfl dX4_turnsOver_17
  · refine lv_iconst (v := 0) hx hb dX4_turnsOver_5 (by decide) ?_
    refine lv_goto (tgt := 17) hx hb dX4_turnsOver_6 (by decide) ?_
    exact ret_I C hP hS (nar_i _) rfl (by unfold f_X4_turnsOver; rw [if_neg c_2]) rfl rfl dX4_turnsOver_17

theorem cw_X4_placeIn : cwVt yX4_placeIn cX4_placeIn 2 (some .int) 4 1 := ⟨(mA2 (i := 210) rfl rfl), (mA2 (i := 211) rfl rfl), (mA1 (i := 3) rfl rfl), (mA2 (i := 212) rfl rfl), by decide +kernel, ⟨_, rfl, rfl⟩, by decide⟩
abbrev rm_X4_placeIn : Room := { frames := 1, cells := 0, slots := 0, locals := 22 }
def f_X4_placeIn (σ : Sg) (k : Nat) (x : Int32) : Int32 :=
  if 1 ≤ x then
    f_J9_floorMod_7cf53 (σ k 2) x
  else
    0
set_option maxHeartbeats 4000000 in
set_option maxRecDepth 100000 in
theorem k_X4_placeIn (l : Launch) (D : va_G) (cy : Nat → ClassId) (z : Nat) (o : Int64) (d : UInt64) (σ τ : Sg) {k : Nat} (hk : kd k = 4) (x : Int32) : KI l yX4_placeIn cX4_placeIn 2 (some .int) rm_X4_placeIn D cy z [.ref (z + k), .int x] o d σ τ (f_X4_placeIn σ k x) σ τ := by
  refine met_of RX4 (plainFor_of_name (by decide)) rfl (Nat.le_of_ble_eq_true rfl) ?_
  intro p e s m args below meth c C hP hS ls hl
  obtain ⟨hx, hb, hr, hml, hown, hW, hlocks, hAm⟩ := id C
  have hl : lv_has ls 2 [(0, .ref (z + k)), (1, .int x)] := hl
  refine lv_iload_n hx hb dX4_placeIn_0 rfl (lv_at hl 1 rfl) ?_
  refine lv_iconst (v := 1) hx hb dX4_placeIn_1 (by decide) ?_
  refine lv_icmp_ge (tgt := 9) hx hb dX4_placeIn_2 (by decide) (fun c_2 => ?_) (fun c_2 => ?_)
  · refine lv_aload_n hx hb dX4_placeIn_9 rfl (lv_at hl 0 rfl) ?_
    refine gf_X4_77 C hP hk dX4_placeIn_10 ?_
    refine lv_iload_n hx hb dX4_placeIn_13 rfl (lv_at hl 1 rfl) ?_
    refine thn_I (run_S (As := [.int (σ k 2), .int x]) (rest := []) C (k_J9_floorMod_7cf53 l D cy z o d σ τ (σ k 2) x (ne0_le1 c_2)) hP hS cw_J9_floorMod_7cf53 (mA2 (i := 213) rfl rfl) ⟨rfl, rfl⟩ ⟨Nat.le_of_ble_eq_true rfl, Nat.le_of_ble_eq_true rfl⟩ rfl (Nat.le_of_ble_eq_true rfl) hl.1 ⟨Nat.zero_le _, Nat.zero_le _⟩ dX4_placeIn_14) hS (fun H locs hP hS => ?_)
    exact ret_I C hP hS (nar_i _) rfl (by unfold f_X4_placeIn; rw [if_pos c_2]) rfl rfl dX4_placeIn_17
  · refine lv_iconst (v := 0) hx hb dX4_placeIn_5 (by decide) ?_
    refine lv_goto (tgt := 17) hx hb dX4_placeIn_6 (by decide) ?_
    exact ret_I C hP hS (nar_i _) rfl (by unfold f_X4_placeIn; rw [if_neg c_2]) rfl rfl dX4_placeIn_17

theorem cw_X4_passMark : cwVt yX4_passMark cX4_passMark 4 (some .int) 4 1 := ⟨(mA2 (i := 206) rfl rfl), (mA2 (i := 207) rfl rfl), (mA1 (i := 3) rfl rfl), (mA2 (i := 208) rfl rfl), by decide +kernel, ⟨_, rfl, rfl⟩, by decide⟩
abbrev rm_X4_passMark : Room := { frames := 2, cells := 0, slots := 0, locals := 43 }
def f_X4_passMark (σ : Sg) (k : Nat) (x : Int32) : Int32 :=
  if x < (2 * (f_X4_placeIn σ k x)) then
    (f_X4_placeIn σ k x) - x
  else
    f_X4_placeIn σ k x
def s_X4_passMark (σ : Sg) (k : Nat) (x : Int32) : Sg :=
  if x < (2 * (f_X4_placeIn σ k x)) then
    up (up (up σ k 2 ((σ k 2) - ((f_X4_placeIn σ k x) - x))) k 7 (((up σ k 2 ((σ k 2) - ((f_X4_placeIn σ k x) - x))) k 7) + ((f_X4_placeIn σ k x) - x))) k 9 (((up (up σ k 2 ((σ k 2) - ((f_X4_placeIn σ k x) - x))) k 7 (((up σ k 2 ((σ k 2) - ((f_X4_placeIn σ k x) - x))) k 7) + ((f_X4_placeIn σ k x) - x))) k 9) + (ab ((f_X4_placeIn σ k x) - x)))
  else
    up (up (up σ k 2 ((σ k 2) - (f_X4_placeIn σ k x))) k 7 (((up σ k 2 ((σ k 2) - (f_X4_placeIn σ k x))) k 7) + (f_X4_placeIn σ k x))) k 9 (((up (up σ k 2 ((σ k 2) - (f_X4_placeIn σ k x))) k 7 (((up σ k 2 ((σ k 2) - (f_X4_placeIn σ k x))) k 7) + (f_X4_placeIn σ k x))) k 9) + (ab (f_X4_placeIn σ k x)))
set_option maxHeartbeats 4000000 in
set_option maxRecDepth 100000 in
theorem k_X4_passMark (l : Launch) (D : va_G) (cy : Nat → ClassId) (z : Nat) (o : Int64) (d : UInt64) (σ τ : Sg) {k : Nat} (hk : kd k = 4) (x : Int32) : KI l yX4_passMark cX4_passMark 4 (some .int) rm_X4_passMark D cy z [.ref (z + k), .int x] o d σ τ (f_X4_passMark σ k x) (s_X4_passMark σ k x) τ := by
  refine met_of RX4 (plainFor_of_name (by decide)) rfl (Nat.le_of_ble_eq_true rfl) ?_
  intro p e s m args below meth c C hP hS ls hl
  obtain ⟨hx, hb, hr, hml, hown, hW, hlocks, hAm⟩ := id C
  have hl : lv_has ls 4 [(0, .ref (z + k)), (1, .int x)] := hl
  refine lv_aload_n hx hb dX4_passMark_0 rfl (lv_at hl 0 rfl) ?_
  refine lv_iload_n hx hb dX4_passMark_1 rfl (lv_at hl 1 rfl) ?_
  refine thn_I (run_V (As := [.int x]) (rest := []) C (k_X4_placeIn l D cy z o d σ τ hk x) hP hS cw_X4_placeIn (mA2 (i := 209) rfl rfl) hk ⟨rfl, rfl⟩ ⟨Nat.le_of_ble_eq_true rfl, Nat.le_of_ble_eq_true rfl⟩ rfl (Nat.le_of_ble_eq_true rfl) hl.1 ⟨Nat.zero_le _, Nat.zero_le _⟩ dX4_passMark_2) hS (fun H locs hP hS => ?_)
  refine lv_istore_n (lv' := [(2, .int (f_X4_placeIn σ k x)), (0, .ref (z + k)), (1, .int x)]) hx hb dX4_passMark_5 rfl hl (by decide) rfl (fun ls hl => ?_)
  refine lv_iconst (v := 2) hx hb dX4_passMark_6 (by decide) ?_
  refine lv_iload_n hx hb dX4_passMark_7 rfl (lv_at hl 0 rfl) ?_
  refine lv_imul hx hb dX4_passMark_8 ?_
  refine lv_iload_n hx hb dX4_passMark_9 rfl (lv_at hl 2 rfl) ?_
  refine lv_icmp_gt (tgt := 17) hx hb dX4_passMark_10 (by decide) (fun c_10 => ?_) (fun c_10 => ?_)
  · refine lv_iload_n hx hb dX4_passMark_17 rfl (lv_at hl 0 rfl) ?_
    refine lv_iload_n hx hb dX4_passMark_18 rfl (lv_at hl 2 rfl) ?_
    refine lv_isub hx hb dX4_passMark_19 ?_
    refine lv_istore_n (lv' := [(3, .int ((f_X4_placeIn σ k x) - x)), (2, .int (f_X4_placeIn σ k x)), (0, .ref (z + k)), (1, .int x)]) hx hb dX4_passMark_20 rfl hl (by decide) rfl (fun ls hl => ?_)
    refine lv_aload_n hx hb dX4_passMark_21 rfl (lv_at hl 2 rfl) ?_
    refine lv_dup hx hb dX4_passMark_22 rfl ?_
    refine gf_X4_77 C hP hk dX4_passMark_23 ?_
    refine lv_iload_n hx hb dX4_passMark_26 rfl (lv_at hl 0 rfl) ?_
    refine lv_isub hx hb dX4_passMark_27 ?_
    refine pf_X4_77 C hP hS hk dX4_passMark_28 (fun H locs hP hS => ?_)
    refine lv_aload_n hx hb dX4_passMark_31 rfl (lv_at hl 2 rfl) ?_
    refine lv_dup hx hb dX4_passMark_32 rfl ?_
    refine gf_X4_99 C hP hk dX4_passMark_33 ?_
    refine lv_iload_n hx hb dX4_passMark_36 rfl (lv_at hl 0 rfl) ?_
    refine lv_iadd hx hb dX4_passMark_37 ?_
    refine pf_X4_99 C hP hS hk dX4_passMark_38 (fun H locs hP hS => ?_)
    refine lv_aload_n hx hb dX4_passMark_41 rfl (lv_at hl 2 rfl) ?_
    refine lv_dup hx hb dX4_passMark_42 rfl ?_
    refine gf_X4_102 C hP hk dX4_passMark_43 ?_
    refine lv_iload_n hx hb dX4_passMark_46 rfl (lv_at hl 0 rfl) ?_
    refine g_abs C (mA2 (i := 188) rfl rfl) (Nat.le_of_ble_eq_true rfl) (Nat.le_of_ble_eq_true rfl) ⟨Nat.zero_le _, Nat.zero_le _⟩ hl.1 dX4_passMark_47 ?_
    refine lv_iadd hx hb dX4_passMark_50 ?_
    refine pf_X4_102 C hP hS hk dX4_passMark_51 (fun H locs hP hS => ?_)
    refine lv_iload_n hx hb dX4_passMark_54 rfl (lv_at hl 0 rfl) ?_
    exact ret_I C hP hS (nar_i _) rfl (by unfold f_X4_passMark; rw [if_pos c_10]) (by unfold s_X4_passMark; rw [if_pos c_10]) rfl dX4_passMark_55
  · refine lv_iload_n hx hb dX4_passMark_13 rfl (lv_at hl 0 rfl) ?_
    refine lv_goto (tgt := 20) hx hb dX4_passMark_14 (by decide) ?_
    refine lv_istore_n (lv' := [(3, .int (f_X4_placeIn σ k x)), (2, .int (f_X4_placeIn σ k x)), (0, .ref (z + k)), (1, .int x)]) hx hb dX4_passMark_20 rfl hl (by decide) rfl (fun ls hl => ?_)
    refine lv_aload_n hx hb dX4_passMark_21 rfl (lv_at hl 2 rfl) ?_
    refine lv_dup hx hb dX4_passMark_22 rfl ?_
    refine gf_X4_77 C hP hk dX4_passMark_23 ?_
    refine lv_iload_n hx hb dX4_passMark_26 rfl (lv_at hl 0 rfl) ?_
    refine lv_isub hx hb dX4_passMark_27 ?_
    refine pf_X4_77 C hP hS hk dX4_passMark_28 (fun H locs hP hS => ?_)
    refine lv_aload_n hx hb dX4_passMark_31 rfl (lv_at hl 2 rfl) ?_
    refine lv_dup hx hb dX4_passMark_32 rfl ?_
    refine gf_X4_99 C hP hk dX4_passMark_33 ?_
    refine lv_iload_n hx hb dX4_passMark_36 rfl (lv_at hl 0 rfl) ?_
    refine lv_iadd hx hb dX4_passMark_37 ?_
    refine pf_X4_99 C hP hS hk dX4_passMark_38 (fun H locs hP hS => ?_)
    refine lv_aload_n hx hb dX4_passMark_41 rfl (lv_at hl 2 rfl) ?_
    refine lv_dup hx hb dX4_passMark_42 rfl ?_
    refine gf_X4_102 C hP hk dX4_passMark_43 ?_
    refine lv_iload_n hx hb dX4_passMark_46 rfl (lv_at hl 0 rfl) ?_
    refine g_abs C (mA2 (i := 188) rfl rfl) (Nat.le_of_ble_eq_true rfl) (Nat.le_of_ble_eq_true rfl) ⟨Nat.zero_le _, Nat.zero_le _⟩ hl.1 dX4_passMark_47 ?_
    refine lv_iadd hx hb dX4_passMark_50 ?_
    refine pf_X4_102 C hP hS hk dX4_passMark_51 (fun H locs hP hS => ?_)
    refine lv_iload_n hx hb dX4_passMark_54 rfl (lv_at hl 0 rfl) ?_
    exact ret_I C hP hS (nar_i _) rfl (by unfold f_X4_passMark; rw [if_neg c_10]) (by unfold s_X4_passMark; rw [if_neg c_10]) rfl dX4_passMark_55

theorem cw_X0_snail : cwVt yX0_snail cX0_snail 2 (some (.object "QuadSnail$Snail")) 0 1 := ⟨(mA2 (i := 0) rfl rfl), (mA2 (i := 1) rfl rfl), (mA1 (i := 2) rfl rfl), (mA2 (i := 2) rfl rfl), by decide +kernel, ⟨_, rfl, rfl⟩, by decide⟩
abbrev rm_X0_snail : Room := { frames := 0, cells := 0, slots := 0, locals := 0 }
def f_X0_snail (σ : Sg) (k : Nat) (x : Int32) : Nat :=
  if x = 0 then
    k + 1
  else
    if x = 1 then
      k + 4
    else
      if x = 2 then
        k + 7
      else
        k + 10
set_option maxHeartbeats 4000000 in
set_option maxRecDepth 100000 in
theorem k_X0_snail (l : Launch) (D : va_G) (cy : Nat → ClassId) (z : Nat) (o : Int64) (d : UInt64) (σ τ : Sg) {k : Nat} (hk : kd k = 0) (x : Int32) : KR l yX0_snail cX0_snail 2 (some (.object "QuadSnail$Snail")) rm_X0_snail D cy z [.ref (z + k), .int x] o d σ τ (f_X0_snail σ k x) σ τ := by
  refine met_of RX0 (plainFor_of_name (by decide)) rfl (Nat.le_of_ble_eq_true rfl) ?_
  intro p e s m args below meth c C hP hS ls hl
  obtain ⟨hx, hb, hr, hml, hown, hW, hlocks, hAm⟩ := id C
  have hl : lv_has ls 2 [(0, .ref (z + k)), (1, .int x)] := hl
  refine lv_iload_n hx hb dX0_snail_0 rfl (lv_at hl 1 rfl) ?_
  by_cases c_1_0 : x = 0
  · refine lv_tableIn (tgt := 28) hx hb dX0_snail_1 (by rw [c_1_0]; decide) (by rw [c_1_0]; decide) (by rw [c_1_0]; rfl) (by decide) ?_
    refine lv_aload_n hx hb dX0_snail_28 rfl (lv_at hl 0 rfl) ?_
    refine gf_X0_12 C hP hk dX0_snail_29 ?_
    exact ret_R C hP hS rfl (by unfold f_X0_snail; rw [if_pos c_1_0]) rfl rfl dX0_snail_32
  · by_cases c_1_1 : x = 1
    · refine lv_tableIn (tgt := 33) hx hb dX0_snail_1 (by rw [c_1_1]; decide) (by rw [c_1_1]; decide) (by rw [c_1_1]; rfl) (by decide) ?_
      refine lv_aload_n hx hb dX0_snail_33 rfl (lv_at hl 0 rfl) ?_
      refine gf_X0_18 C hP hk dX0_snail_34 ?_
      exact ret_R C hP hS rfl (by unfold f_X0_snail; rw [if_neg c_1_0, if_pos c_1_1]) rfl rfl dX0_snail_37
    · by_cases c_1_2 : x = 2
      · refine lv_tableIn (tgt := 38) hx hb dX0_snail_1 (by rw [c_1_2]; decide) (by rw [c_1_2]; decide) (by rw [c_1_2]; rfl) (by decide) ?_
        refine lv_aload_n hx hb dX0_snail_38 rfl (lv_at hl 0 rfl) ?_
        refine gf_X0_21 C hP hk dX0_snail_39 ?_
        exact ret_R C hP hS rfl (by unfold f_X0_snail; rw [if_neg c_1_0, if_neg c_1_1, if_pos c_1_2]) rfl rfl dX0_snail_42
      · refine lv_tableOut (tgt := 43) hx hb dX0_snail_1 (tab_out3 (lv_neT c_1_0 (k := 0) (a := 0) rfl) (lv_neT c_1_1 (k := 1) (a := 1) rfl) (lv_neT c_1_2 (k := 2) (a := 2) rfl)) (by decide) ?_
        refine lv_aload_n hx hb dX0_snail_43 rfl (lv_at hl 0 rfl) ?_
        refine gf_X0_24 C hP hk dX0_snail_44 ?_
        exact ret_R C hP hS rfl (by unfold f_X0_snail; rw [if_neg c_1_0, if_neg c_1_1, if_neg c_1_2]) rfl rfl dX0_snail_47
theorem kr_X0_snail (σ : Sg) {k : Nat} (hk : kd k = 0) (x : Int32) : kd (f_X0_snail σ k x) = 4 := by
  unfold f_X0_snail
  repeat' split
  all_goals first | exact kd0_1 hk | exact kd0_4 hk | exact kd0_7 hk | exact kd0_10 hk

theorem cw_X0_sumOfPositions : cwVt yX0_sumOfPositions cX0_sumOfPositions 1 (some .int) 0 0 := ⟨(mA1 (i := 232) rfl rfl), (mA1 (i := 233) rfl rfl), (mA1 (i := 2) rfl rfl), (mA1 (i := 234) rfl rfl), by decide +kernel, ⟨_, rfl, rfl⟩, by decide⟩
abbrev rm_X0_sumOfPositions : Room := { frames := 0, cells := 0, slots := 0, locals := 0 }
def f_X0_sumOfPositions (σ : Sg) (k : Nat) : Int32 :=
  (((σ (k + 1) 2) + (σ (k + 4) 2)) + (σ (k + 7) 2)) + (σ (k + 10) 2)
set_option maxHeartbeats 4000000 in
set_option maxRecDepth 100000 in
theorem k_X0_sumOfPositions (l : Launch) (D : va_G) (cy : Nat → ClassId) (z : Nat) (o : Int64) (d : UInt64) (σ τ : Sg) {k : Nat} (hk : kd k = 0) : KI l yX0_sumOfPositions cX0_sumOfPositions 1 (some .int) rm_X0_sumOfPositions D cy z [.ref (z + k)] o d σ τ (f_X0_sumOfPositions σ k) σ τ := by
  refine met_of RX0 (plainFor_of_name (by decide)) rfl (Nat.le_of_ble_eq_true rfl) ?_
  intro p e s m args below meth c C hP hS ls hl
  obtain ⟨hx, hb, hr, hml, hown, hW, hlocks, hAm⟩ := id C
  have hl : lv_has ls 1 [(0, .ref (z + k))] := hl
  refine lv_aload_n hx hb dX0_sumOfPositions_0 rfl (lv_at hl 0 rfl) ?_
  refine gf_X0_12 C hP hk dX0_sumOfPositions_1 ?_
  refine gf_X0_34 C hP (kd0_1 hk) dX0_sumOfPositions_4 ?_
  refine lv_aload_n hx hb dX0_sumOfPositions_7 rfl (lv_at hl 0 rfl) ?_
  refine gf_X0_18 C hP hk dX0_sumOfPositions_8 ?_
  refine gf_X0_34 C hP (kd0_4 hk) dX0_sumOfPositions_11 ?_
  refine lv_iadd hx hb dX0_sumOfPositions_14 ?_
  refine lv_aload_n hx hb dX0_sumOfPositions_15 rfl (lv_at hl 0 rfl) ?_
  refine gf_X0_21 C hP hk dX0_sumOfPositions_16 ?_
  refine gf_X0_34 C hP (kd0_7 hk) dX0_sumOfPositions_19 ?_
  refine lv_iadd hx hb dX0_sumOfPositions_22 ?_
  refine lv_aload_n hx hb dX0_sumOfPositions_23 rfl (lv_at hl 0 rfl) ?_
  refine gf_X0_24 C hP hk dX0_sumOfPositions_24 ?_
  refine gf_X0_34 C hP (kd0_10 hk) dX0_sumOfPositions_27 ?_
  refine lv_iadd hx hb dX0_sumOfPositions_30 ?_
  exact ret_I C hP hS (nar_i _) rfl rfl rfl rfl dX0_sumOfPositions_31

theorem cw_X3_latest : cwVt yX3_latest cX3_latest 1 (some (.object "QuadSnail$Garden")) 3 0 := ⟨(mA2 (i := 161) rfl rfl), (mA0 (i := 2) rfl rfl), (mA1 (i := 5) rfl rfl), (mA2 (i := 162) rfl rfl), by decide +kernel, ⟨_, rfl, rfl⟩, by decide⟩
abbrev rm_X3_latest : Room := { frames := 0, cells := 0, slots := 0, locals := 0 }
def f_X3_latest (σ : Sg) (k : Nat) : Nat :=
  if ((((σ k 4) + (σ k 5)) - 1) - (((σ k 4) + (σ k 5)) - 1) / 4 * 4) = 0 then
    k + 1
  else
    if ((((σ k 4) + (σ k 5)) - 1) - (((σ k 4) + (σ k 5)) - 1) / 4 * 4) = 1 then
      k + 14
    else
      if ((((σ k 4) + (σ k 5)) - 1) - (((σ k 4) + (σ k 5)) - 1) / 4 * 4) = 2 then
        k + 27
      else
        k + 40
set_option maxHeartbeats 4000000 in
set_option maxRecDepth 100000 in
theorem k_X3_latest (l : Launch) (D : va_G) (cy : Nat → ClassId) (z : Nat) (o : Int64) (d : UInt64) (σ τ : Sg) {k : Nat} (hk : kd k = 3) : KR l yX3_latest cX3_latest 1 (some (.object "QuadSnail$Garden")) rm_X3_latest D cy z [.ref (z + k)] o d σ τ (f_X3_latest σ k) σ τ := by
  refine met_of RX3 (plainFor_of_name (by decide)) rfl (Nat.le_of_ble_eq_true rfl) ?_
  intro p e s m args below meth c C hP hS ls hl
  obtain ⟨hx, hb, hr, hml, hown, hW, hlocks, hAm⟩ := id C
  have hl : lv_has ls 1 [(0, .ref (z + k))] := hl
  refine lv_aload_n hx hb dX3_latest_0 rfl (lv_at hl 0 rfl) ?_
  refine gf_X3_31 C hP hk dX3_latest_1 ?_
  refine lv_aload_n hx hb dX3_latest_4 rfl (lv_at hl 0 rfl) ?_
  refine gf_X3_27 C hP hk dX3_latest_5 ?_
  refine lv_iadd hx hb dX3_latest_8 ?_
  refine lv_iconst (v := 1) hx hb dX3_latest_9 (by decide) ?_
  refine lv_isub hx hb dX3_latest_10 ?_
  refine lv_iconst (v := 4) hx hb dX3_latest_11 (by decide) ?_
  refine lv_irem hx hb dX3_latest_12 (by decide) ?_
  by_cases c_13_0 : ((((σ k 4) + (σ k 5)) - 1) - (((σ k 4) + (σ k 5)) - 1) / 4 * 4) = 0
  · refine lv_tableIn (tgt := 40) hx hb dX3_latest_13 (by rw [c_13_0]; decide) (by rw [c_13_0]; decide) (by rw [c_13_0]; rfl) (by decide) ?_
    refine lv_aload_n hx hb dX3_latest_40 rfl (lv_at hl 0 rfl) ?_
    refine gf_X3_12 C hP hk dX3_latest_41 ?_
    exact ret_R C hP hS rfl (by unfold f_X3_latest; rw [if_pos c_13_0]) rfl rfl dX3_latest_44
  · by_cases c_13_1 : ((((σ k 4) + (σ k 5)) - 1) - (((σ k 4) + (σ k 5)) - 1) / 4 * 4) = 1
    · refine lv_tableIn (tgt := 45) hx hb dX3_latest_13 (by rw [c_13_1]; decide) (by rw [c_13_1]; decide) (by rw [c_13_1]; rfl) (by decide) ?_
      refine lv_aload_n hx hb dX3_latest_45 rfl (lv_at hl 0 rfl) ?_
      refine gf_X3_18 C hP hk dX3_latest_46 ?_
      exact ret_R C hP hS rfl (by unfold f_X3_latest; rw [if_neg c_13_0, if_pos c_13_1]) rfl rfl dX3_latest_49
    · by_cases c_13_2 : ((((σ k 4) + (σ k 5)) - 1) - (((σ k 4) + (σ k 5)) - 1) / 4 * 4) = 2
      · refine lv_tableIn (tgt := 50) hx hb dX3_latest_13 (by rw [c_13_2]; decide) (by rw [c_13_2]; decide) (by rw [c_13_2]; rfl) (by decide) ?_
        refine lv_aload_n hx hb dX3_latest_50 rfl (lv_at hl 0 rfl) ?_
        refine gf_X3_21 C hP hk dX3_latest_51 ?_
        exact ret_R C hP hS rfl (by unfold f_X3_latest; rw [if_neg c_13_0, if_neg c_13_1, if_pos c_13_2]) rfl rfl dX3_latest_54
      · refine lv_tableOut (tgt := 55) hx hb dX3_latest_13 (tab_out3 (lv_neT c_13_0 (k := 0) (a := 0) rfl) (lv_neT c_13_1 (k := 1) (a := 1) rfl) (lv_neT c_13_2 (k := 2) (a := 2) rfl)) (by decide) ?_
        refine lv_aload_n hx hb dX3_latest_55 rfl (lv_at hl 0 rfl) ?_
        refine gf_X3_24 C hP hk dX3_latest_56 ?_
        exact ret_R C hP hS rfl (by unfold f_X3_latest; rw [if_neg c_13_0, if_neg c_13_1, if_neg c_13_2]) rfl rfl dX3_latest_59
theorem kr_X3_latest (σ : Sg) {k : Nat} (hk : kd k = 3) : kd (f_X3_latest σ k) = 0 := by
  unfold f_X3_latest
  repeat' split
  all_goals first | exact kd3_1 hk | exact kd3_14 hk | exact kd3_27 hk | exact kd3_40 hk
end
section
theorem cw_X1_copyFrom : cwVt yX1_copyFrom cX1_copyFrom 3 none 1 1 := ⟨(mA1 (i := 228) rfl rfl), (mA1 (i := 229) rfl rfl), (mA1 (i := 4) rfl rfl), (mA1 (i := 230) rfl rfl), by decide +kernel, ⟨_, rfl, rfl⟩, by decide⟩
abbrev rm_X1_copyFrom : Room := { frames := 0, cells := 0, slots := 0, locals := 0 }
def gs_X1_copyFrom (k j : Nat) : Nat → Nat → Sg → Sg
  | 0, _, σ => σ
  | n + 1, i, σ =>
    if 48 ≤ i then
      up (up σ k 1 (σ j 1)) k 2 ((up σ k 1 (σ j 1)) j 2)
    else
      gs_X1_copyFrom k j n (i + 1) (up σ (k + 1) i (σ (j + 1) i))
set_option maxHeartbeats 4000000 in
set_option maxRecDepth 100000 in
theorem lp_X1_copyFrom {p : Program} {l : Launch} {e : Env} {s : State} {m : MethodId} {args : Array Value} {below : List Frame} {meth : Method} {c : Code} {D : va_G} {cy : Nat → ClassId} {z : Nat} (C : Bd p s m args meth c cX1_copyFrom 3 none RX1 D cy z) (o : Int64) (d : UInt64) {k : Nat} (hk : kd k = 1) {j : Nat} (hk_j : kd j = 1) {σ9 : Sg} :
    ∀ (n : Nat) (i : Nat) (σ τ : Sg) (H : Heap) (locs : List Loc), (i ≤ 48 ∧ 49 ≤ i + n) → (gs_X1_copyFrom k j n i σ = σ9) → WP D cy z σ τ o d H → va_S (fz z) s.heap H locs → ∀ ls : Array Slot, lv_has ls 3 [(0, .ref (z + k)), (1, .ref (z + j)), (2, .int (nI i))] → W p l e rm_X1_copyFrom s m args below meth c H locs 0 0 (MQ below (PoV D cy z o d σ9 τ) args s 0 0 (fz z)) (F0 m 2 ls []) := by
  obtain ⟨hx, hb, hr, hml, hown, hW, hlocks, hAm⟩ := id C
  intro n
  induction n with
  | zero =>
    intro _ σ τ H locs hn9 _ hP hS ls hl
    exact absurd hn9 (by omega)
  | succ n ih =>
    intro i σ τ H locs hn9 hs9 hP hS ls hl
    refine lv_iload_n hx hb dX1_copyFrom_2 rfl (lv_at hl 2 rfl) ?_
    refine lv_aload_n hx hb dX1_copyFrom_3 rfl (lv_at hl 0 rfl) ?_
    refine gf_X1_11 C hP hk dX1_copyFrom_4 ?_
    refine ln_7 C hP (kd1_1 hk) dX1_copyFrom_7 ?_
    refine lv_icmp_ge (tgt := 38) hx hb dX1_copyFrom_8 (by decide) (fun c_8 => ?_) (fun c_8 => ?_)
    · have d_8 : 48 ≤ i := (cI_le (a := 48) (b := i) rfl rfl (by omega) (by omega)).mp c_8
      refine lv_aload_n hx hb dX1_copyFrom_38 rfl (lv_at hl 0 rfl) ?_
      refine lv_aload_n hx hb dX1_copyFrom_39 rfl (lv_at hl 1 rfl) ?_
      refine gf_X1_19 C hP hk_j dX1_copyFrom_40 ?_
      refine pf_X1_19 C hP hS hk dX1_copyFrom_43 (fun H locs hP hS => ?_)
      refine lv_aload_n hx hb dX1_copyFrom_46 rfl (lv_at hl 0 rfl) ?_
      refine lv_aload_n hx hb dX1_copyFrom_47 rfl (lv_at hl 1 rfl) ?_
      refine gf_X1_15 C hP hk_j dX1_copyFrom_48 ?_
      refine pf_X1_15 C hP hS hk dX1_copyFrom_51 (fun H locs hP hS => ?_)
      exact ret_V C hP hS (by rw [← hs9, gs_X1_copyFrom]; rw [if_pos d_8]) rfl dX1_copyFrom_54
    · have d_8 : ¬ (48 ≤ i) := fun h9 => c_8 ((cI_le (a := 48) (b := i) rfl rfl (by omega) (by omega)).mpr h9)
      refine lv_iload_n hx hb dX1_copyFrom_11 rfl (lv_at hl 2 rfl) ?_
      refine lv_aload_n hx hb dX1_copyFrom_12 rfl (lv_at hl 1 rfl) ?_
      refine gf_X1_11 C hP hk_j dX1_copyFrom_13 ?_
      refine ln_7 C hP (kd1_1 hk_j) dX1_copyFrom_16 ?_
      refine lv_icmp_ge (tgt := 38) hx hb dX1_copyFrom_17 (by decide) (fun c_17 => ?_) (fun c_17 => ?_)
      · exact absurd c_17 c_8
      · refine lv_aload_n hx hb dX1_copyFrom_20 rfl (lv_at hl 0 rfl) ?_
        refine gf_X1_11 C hP hk dX1_copyFrom_21 ?_
        refine lv_iload_n hx hb dX1_copyFrom_24 rfl (lv_at hl 2 rfl) ?_
        refine lv_aload_n hx hb dX1_copyFrom_25 rfl (lv_at hl 1 rfl) ?_
        refine gf_X1_11 C hP hk_j dX1_copyFrom_26 ?_
        refine lv_iload_n hx hb dX1_copyFrom_29 rfl (lv_at hl 2 rfl) ?_
        refine al_7 C hP (kd1_1 hk_j) (vp_in_nI (by omega) (by decide)) dX1_copyFrom_30 ?_
        rw [nI_clamp (by omega)]
        refine as_7 C hP hS (kd1_1 hk) (vp_in_nI (by omega) (by decide)) dX1_copyFrom_31 (fun H locs hP hS => ?_)
        rw [nI_clamp (n := i) (by omega)] at hP
        refine lv_iinc (v := nI (i + 1)) (lv' := [(2, .int (nI (i + 1))), (0, .ref (z + k)), (1, .ref (z + j))]) hx hb dX1_copyFrom_32 hl (k := 2) rfl (nI_1 i) (by decide) rfl (fun ls hl => ?_)
        refine lv_goto (tgt := 2) hx hb dX1_copyFrom_35 (by decide) ?_
        exact ih (i + 1) (up σ (k + 1) i (σ (j + 1) i)) τ _ _ (⟨by omega, by omega⟩) (by rw [← hs9, gs_X1_copyFrom]; rw [if_neg d_8]) hP hS ls (lv_sub hl [1, 2, 0] rfl)
def s_X1_copyFrom (σ : Sg) (k : Nat) (j : Nat) : Sg :=
  gs_X1_copyFrom k j 49 0 σ
set_option maxHeartbeats 4000000 in
set_option maxRecDepth 100000 in
theorem k_X1_copyFrom (l : Launch) (D : va_G) (cy : Nat → ClassId) (z : Nat) (o : Int64) (d : UInt64) (σ τ : Sg) {k : Nat} (hk : kd k = 1) (j : Nat) (hk_j : kd j = 1) : KV l yX1_copyFrom cX1_copyFrom 3 rm_X1_copyFrom D cy z [.ref (z + k), .ref (z + j)] o d σ τ (s_X1_copyFrom σ k j) τ := by
  refine met_of RX1 (plainFor_of_name (by decide)) rfl (Nat.le_of_ble_eq_true rfl) ?_
  intro p e s m args below meth c C hP hS ls hl
  obtain ⟨hx, hb, hr, hml, hown, hW, hlocks, hAm⟩ := id C
  have hl : lv_has ls 3 [(0, .ref (z + k)), (1, .ref (z + j))] := hl
  refine lv_iconst (v := 0) hx hb dX1_copyFrom_0 (by decide) ?_
  refine lv_istore_n (lv' := [(2, .int 0), (0, .ref (z + k)), (1, .ref (z + j))]) hx hb dX1_copyFrom_1 rfl hl (by decide) rfl (fun ls hl => ?_)
  exact lp_X1_copyFrom C o d hk hk_j (49) 0 σ τ _ _ (⟨by omega, by omega⟩) rfl hP hS ls (lv_sub hl [1, 2, 0] rfl)

theorem cw_X2_orders : cwVt yX2_orders cX2_orders 3 (some .int) 2 0 := ⟨(mA3 (i := 59) rfl rfl), (mA3 (i := 60) rfl rfl), (mA1 (i := 6) rfl rfl), (mA3 (i := 61) rfl rfl), by decide +kernel, ⟨_, rfl, rfl⟩, by decide⟩
abbrev rm_X2_orders : Room := { frames := 1, cells := 0, slots := 0, locals := 21 }
def gf_X2_orders (σ : Sg) (k L : Nat) : Nat → Int32 → Nat → Int32
  | 0, _, _ => 0
  | n + 1, x, i =>
    if L ≤ i then
      x
    else
      if (f_X2_sign σ k (nI i)) = 59 then
        gf_X2_orders σ k L n (x + 1) (i + 1)
      else
        gf_X2_orders σ k L n x (i + 1)
set_option maxHeartbeats 4000000 in
set_option maxRecDepth 100000 in
theorem lp_X2_orders {p : Program} {l : Launch} {e : Env} {s : State} {m : MethodId} {args : Array Value} {below : List Frame} {meth : Method} {c : Code} {D : va_G} {cy : Nat → ClassId} {z : Nat} (C : Bd p s m args meth c cX2_orders 3 (some .int) RX2 D cy z) (o : Int64) (d : UInt64) {k : Nat} (hk : kd k = 2) (L : Nat) {r9 : Int32} :
    ∀ (n : Nat) (x : Int32) (i : Nat) (σ τ : Sg) (H : Heap) (locs : List Loc), (σ k 1 = nI L) → (L ≤ 80 ∧ i ≤ L ∧ L + 1 ≤ i + n) → (gf_X2_orders σ k L n x i = r9) → WP D cy z σ τ o d H → va_S (fz z) s.heap H locs → ∀ ls : Array Slot, lv_has ls 3 [(0, .ref (z + k)), (1, .int x), (2, .int (nI i))] → W p l e rm_X2_orders s m args below meth c H locs 0 0 (MQ below (PoI D cy z o d r9 σ τ) args s 0 0 (fz z)) (F0 m 4 ls []) := by
  obtain ⟨hx, hb, hr, hml, hown, hW, hlocks, hAm⟩ := id C
  intro n
  induction n with
  | zero =>
    intro _ _ σ τ H locs hL hn9 _ hP hS ls hl
    exact absurd hn9 (by omega)
  | succ n ih =>
    intro x i σ τ H locs hL hn9 hr9 hP hS ls hl
    refine lv_iload_n hx hb dX2_orders_4 rfl (lv_at hl 2 rfl) ?_
    refine lv_aload_n hx hb dX2_orders_5 rfl (lv_at hl 0 rfl) ?_
    refine gf_X2_15 C hP hk dX2_orders_6 ?_
    rw [hL]
    refine lv_icmp_ge (tgt := 31) hx hb dX2_orders_9 (by decide) (fun c_9 => ?_) (fun c_9 => ?_)
    · have d_9 : L ≤ i := (cI_le rfl rfl (by omega) (by omega)).mp c_9
      refine lv_iload_n hx hb dX2_orders_31 rfl (lv_at hl 1 rfl) ?_
      exact ret_I C hP hS (nar_i _) rfl (by rw [← hr9, gf_X2_orders]; rw [if_pos d_9]) rfl rfl dX2_orders_32
    · have d_9 : ¬ (L ≤ i) := fun h9 => c_9 ((cI_le rfl rfl (by omega) (by omega)).mpr h9)
      refine lv_aload_n hx hb dX2_orders_12 rfl (lv_at hl 0 rfl) ?_
      refine lv_iload_n hx hb dX2_orders_13 rfl (lv_at hl 2 rfl) ?_
      refine thn_I (run_V (As := [.int (nI i)]) (rest := []) C (k_X2_sign l D cy z o d σ τ hk (nI i)) hP hS cw_X2_sign (mA1 (i := 199) rfl rfl) hk ⟨rfl, rfl⟩ ⟨Nat.le_of_ble_eq_true rfl, Nat.le_of_ble_eq_true rfl⟩ rfl (Nat.le_of_ble_eq_true rfl) hl.1 ⟨Nat.zero_le _, Nat.zero_le _⟩ dX2_orders_14) hS (fun H locs hP hS => ?_)
      refine lv_bipush (v := 59) hx hb dX2_orders_17 (by decide) ?_
      refine lv_icmp_ne (tgt := 25) hx hb dX2_orders_19 (by decide) (fun c_19 => ?_) (fun c_19 => ?_)
      · refine lv_iinc (v := nI (i + 1)) (lv' := [(2, .int (nI (i + 1))), (0, .ref (z + k)), (1, .int x)]) hx hb dX2_orders_25 hl (k := 2) rfl (nI_1 i) (by decide) rfl (fun ls hl => ?_)
        refine lv_goto (tgt := 4) hx hb dX2_orders_28 (by decide) ?_
        exact ih x (i + 1) σ τ _ _ hL (⟨by omega, by omega, by omega⟩) (by rw [← hr9, gf_X2_orders]; rw [if_neg d_9, if_neg c_19]) hP hS ls (lv_sub hl [1, 2, 0] rfl)
      · refine lv_iinc (v := x + 1) (lv' := [(1, .int (x + 1)), (0, .ref (z + k)), (2, .int (nI i))]) hx hb dX2_orders_22 hl (k := 1) rfl rfl (by decide) rfl (fun ls hl => ?_)
        refine lv_iinc (v := nI (i + 1)) (lv' := [(2, .int (nI (i + 1))), (1, .int (x + 1)), (0, .ref (z + k))]) hx hb dX2_orders_25 hl (k := 2) rfl (nI_1 i) (by decide) rfl (fun ls hl => ?_)
        refine lv_goto (tgt := 4) hx hb dX2_orders_28 (by decide) ?_
        exact ih (x + 1) (i + 1) σ τ _ _ hL (⟨by omega, by omega, by omega⟩) (by rw [← hr9, gf_X2_orders]; rw [if_neg d_9, if_pos c_19]) hP hS ls (lv_sub hl [2, 1, 0] rfl)
def f_X2_orders (σ : Sg) (k : Nat) : Int32 :=
  gf_X2_orders σ k (TL σ k) 81 1 0
set_option maxHeartbeats 4000000 in
set_option maxRecDepth 100000 in
theorem k_X2_orders (l : Launch) (D : va_G) (cy : Nat → ClassId) (z : Nat) (o : Int64) (d : UInt64) (σ τ : Sg) {k : Nat} (hk : kd k = 2) (hT : TXA σ) : KI l yX2_orders cX2_orders 3 (some .int) rm_X2_orders D cy z [.ref (z + k)] o d σ τ (f_X2_orders σ k) σ τ := by
  refine met_of RX2 (plainFor_of_name (by decide)) rfl (Nat.le_of_ble_eq_true rfl) ?_
  intro p e s m args below meth c C hP hS ls hl
  obtain ⟨hx, hb, hr, hml, hown, hW, hlocks, hAm⟩ := id C
  have hl : lv_has ls 3 [(0, .ref (z + k))] := hl
  obtain ⟨hL, hL80⟩ := hT.of hk
  refine lv_iconst (v := 1) hx hb dX2_orders_0 (by decide) ?_
  refine lv_istore_n (lv' := [(1, .int 1), (0, .ref (z + k))]) hx hb dX2_orders_1 rfl hl (by decide) rfl (fun ls hl => ?_)
  refine lv_iconst (v := 0) hx hb dX2_orders_2 (by decide) ?_
  refine lv_istore_n (lv' := [(2, .int 0), (1, .int 1), (0, .ref (z + k))]) hx hb dX2_orders_3 rfl hl (by decide) rfl (fun ls hl => ?_)
  exact lp_X2_orders C o d hk (TL σ k) (81) 1 0 σ τ _ _ hL (⟨by omega, by omega, by omega⟩) rfl hP hS ls (lv_sub hl [2, 1, 0] rfl)

theorem cw_X2_endOfOrder : cwVt yX2_endOfOrder cX2_endOfOrder 3 (some .int) 2 1 := ⟨(mA3 (i := 80) rfl rfl), (mA3 (i := 81) rfl rfl), (mA1 (i := 6) rfl rfl), (mA3 (i := 82) rfl rfl), by decide +kernel, ⟨_, rfl, rfl⟩, by decide⟩
abbrev rm_X2_endOfOrder : Room := { frames := 1, cells := 0, slots := 0, locals := 21 }
def gf_X2_endOfOrder (σ : Sg) (k L : Nat) : Nat → Nat → Int32
  | 0, _ => 0
  | n + 1, i =>
    if L ≤ i then
      nI L
    else
      if (f_X2_sign σ k (nI i)) = 59 then
        nI i
      else
        gf_X2_endOfOrder σ k L n (i + 1)
set_option maxHeartbeats 4000000 in
set_option maxRecDepth 100000 in
theorem lp_X2_endOfOrder {p : Program} {l : Launch} {e : Env} {s : State} {m : MethodId} {args : Array Value} {below : List Frame} {meth : Method} {c : Code} {D : va_G} {cy : Nat → ClassId} {z : Nat} (C : Bd p s m args meth c cX2_endOfOrder 3 (some .int) RX2 D cy z) (o : Int64) (d : UInt64) {k : Nat} (hk : kd k = 2) (L a : Nat) {r9 : Int32} :
    ∀ (n : Nat) (i : Nat) (σ τ : Sg) (H : Heap) (locs : List Loc), (σ k 1 = nI L) → (L ≤ 80 ∧ i ≤ 200 ∧ L + 1 ≤ i + n ∧ 1 ≤ n) → (gf_X2_endOfOrder σ k L n i = r9) → WP D cy z σ τ o d H → va_S (fz z) s.heap H locs → ∀ ls : Array Slot, lv_has ls 3 [(0, .ref (z + k)), (1, .int (nI a)), (2, .int (nI i))] → W p l e rm_X2_endOfOrder s m args below meth c H locs 0 0 (MQ below (PoI D cy z o d r9 σ τ) args s 0 0 (fz z)) (F0 m 2 ls []) := by
  obtain ⟨hx, hb, hr, hml, hown, hW, hlocks, hAm⟩ := id C
  intro n
  induction n with
  | zero =>
    intro _ σ τ H locs hL hn9 _ hP hS ls hl
    exact absurd hn9 (by omega)
  | succ n ih =>
    intro i σ τ H locs hL hn9 hr9 hP hS ls hl
    refine lv_iload_n hx hb dX2_endOfOrder_2 rfl (lv_at hl 2 rfl) ?_
    refine lv_aload_n hx hb dX2_endOfOrder_3 rfl (lv_at hl 0 rfl) ?_
    refine gf_X2_15 C hP hk dX2_endOfOrder_4 ?_
    rw [hL]
    refine lv_icmp_ge (tgt := 28) hx hb dX2_endOfOrder_7 (by decide) (fun c_7 => ?_) (fun c_7 => ?_)
    · have d_7 : L ≤ i := (cI_le rfl rfl (by omega) (by omega)).mp c_7
      refine lv_aload_n hx hb dX2_endOfOrder_28 rfl (lv_at hl 0 rfl) ?_
      refine gf_X2_15 C hP hk dX2_endOfOrder_29 ?_
      rw [hL]
      exact ret_I C hP hS (nar_i _) rfl (by rw [← hr9, gf_X2_endOfOrder]; rw [if_pos d_7]) rfl rfl dX2_endOfOrder_32
    · have d_7 : ¬ (L ≤ i) := fun h9 => c_7 ((cI_le rfl rfl (by omega) (by omega)).mpr h9)
      refine lv_aload_n hx hb dX2_endOfOrder_10 rfl (lv_at hl 0 rfl) ?_
      refine lv_iload_n hx hb dX2_endOfOrder_11 rfl (lv_at hl 2 rfl) ?_
      refine thn_I (run_V (As := [.int (nI i)]) (rest := []) C (k_X2_sign l D cy z o d σ τ hk (nI i)) hP hS cw_X2_sign (mA1 (i := 199) rfl rfl) hk ⟨rfl, rfl⟩ ⟨Nat.le_of_ble_eq_true rfl, Nat.le_of_ble_eq_true rfl⟩ rfl (Nat.le_of_ble_eq_true rfl) hl.1 ⟨Nat.zero_le _, Nat.zero_le _⟩ dX2_endOfOrder_12) hS (fun H locs hP hS => ?_)
      refine lv_bipush (v := 59) hx hb dX2_endOfOrder_15 (by decide) ?_
      refine lv_icmp_ne (tgt := 22) hx hb dX2_endOfOrder_17 (by decide) (fun c_17 => ?_) (fun c_17 => ?_)
      · refine lv_iinc (v := nI (i + 1)) (lv' := [(2, .int (nI (i + 1))), (0, .ref (z + k)), (1, .int (nI a))]) hx hb dX2_endOfOrder_22 hl (k := 2) rfl (nI_1 i) (by decide) rfl (fun ls hl => ?_)
        refine lv_goto (tgt := 2) hx hb dX2_endOfOrder_25 (by decide) ?_
        exact ih (i + 1) σ τ _ _ hL (⟨by omega, by omega, by omega, by omega⟩) (by rw [← hr9, gf_X2_endOfOrder]; rw [if_neg d_7, if_neg c_17]) hP hS ls (lv_sub hl [1, 2, 0] rfl)
      · refine lv_iload_n hx hb dX2_endOfOrder_20 rfl (lv_at hl 2 rfl) ?_
        exact ret_I C hP hS (nar_i _) rfl (by rw [← hr9, gf_X2_endOfOrder]; rw [if_neg d_7, if_pos c_17]) rfl rfl dX2_endOfOrder_21
def f_X2_endOfOrder (σ : Sg) (k : Nat) (a : Nat) : Int32 :=
  gf_X2_endOfOrder σ k (TL σ k) 81 a
set_option maxHeartbeats 4000000 in
set_option maxRecDepth 100000 in
theorem k_X2_endOfOrder (l : Launch) (D : va_G) (cy : Nat → ClassId) (z : Nat) (o : Int64) (d : UInt64) (σ τ : Sg) {k : Nat} (hk : kd k = 2) (a : Nat) (hT : TXA σ) (ha : a ≤ 200) : KI l yX2_endOfOrder cX2_endOfOrder 3 (some .int) rm_X2_endOfOrder D cy z [.ref (z + k), .int (nI a)] o d σ τ (f_X2_endOfOrder σ k a) σ τ := by
  refine met_of RX2 (plainFor_of_name (by decide)) rfl (Nat.le_of_ble_eq_true rfl) ?_
  intro p e s m args below meth c C hP hS ls hl
  obtain ⟨hx, hb, hr, hml, hown, hW, hlocks, hAm⟩ := id C
  have hl : lv_has ls 3 [(0, .ref (z + k)), (1, .int (nI a))] := hl
  obtain ⟨hL, hL80⟩ := hT.of hk
  refine lv_iload_n hx hb dX2_endOfOrder_0 rfl (lv_at hl 1 rfl) ?_
  refine lv_istore_n (lv' := [(2, .int (nI a)), (0, .ref (z + k)), (1, .int (nI a))]) hx hb dX2_endOfOrder_1 rfl hl (by decide) rfl (fun ls hl => ?_)
  exact lp_X2_endOfOrder C o d hk (TL σ k) a (81) a σ τ _ _ hL (⟨by omega, by omega, by omega, by omega⟩) rfl hP hS ls (lv_sub hl [1, 2, 0] rfl)

theorem cw_X2_firstError : cwVt yX2_firstError cX2_firstError 3 (some .int) 2 0 := ⟨(mA1 (i := 196) rfl rfl), (mA1 (i := 197) rfl rfl), (mA1 (i := 6) rfl rfl), (mA1 (i := 198) rfl rfl), by decide +kernel, ⟨_, rfl, rfl⟩, by decide⟩
abbrev rm_X2_firstError : Room := { frames := 2, cells := 0, slots := 0, locals := 43 }
def gf_X2_firstError (σ : Sg) (k L : Nat) : Nat → Int32 → Nat → Int32
  | 0, _, _ => 0
  | n + 1, x, i =>
    if L ≤ i then
      if (f_X2_mayEnd x) = 0 then
        σ k 1
      else
        (-1)
    else
      if (f_X2_placeAfter x (f_X2_sign σ k (nI i))) = (-1) then
        nI i
      else
        gf_X2_firstError σ k L n (f_X2_placeAfter x (f_X2_sign σ k (nI i))) (i + 1)
set_option maxHeartbeats 4000000 in
set_option maxRecDepth 100000 in
theorem lp_X2_firstError {p : Program} {l : Launch} {e : Env} {s : State} {m : MethodId} {args : Array Value} {below : List Frame} {meth : Method} {c : Code} {D : va_G} {cy : Nat → ClassId} {z : Nat} (C : Bd p s m args meth c cX2_firstError 3 (some .int) RX2 D cy z) (o : Int64) (d : UInt64) {k : Nat} (hk : kd k = 2) (L : Nat) {r9 : Int32} :
    ∀ (n : Nat) (x : Int32) (i : Nat) (σ τ : Sg) (H : Heap) (locs : List Loc), (σ k 1 = nI L) → (L ≤ 80 ∧ i ≤ L ∧ L + 1 ≤ i + n) → (gf_X2_firstError σ k L n x i = r9) → WP D cy z σ τ o d H → va_S (fz z) s.heap H locs → ∀ ls : Array Slot, lv_has ls 3 [(0, .ref (z + k)), (1, .int x), (2, .int (nI i))] → W p l e rm_X2_firstError s m args below meth c H locs 0 0 (MQ below (PoI D cy z o d r9 σ τ) args s 0 0 (fz z)) (F0 m 4 ls []) := by
  obtain ⟨hx, hb, hr, hml, hown, hW, hlocks, hAm⟩ := id C
  intro n
  induction n with
  | zero =>
    intro _ _ σ τ H locs hL hn9 _ hP hS ls hl
    exact absurd hn9 (by omega)
  | succ n ih =>
    intro x i σ τ H locs hL hn9 hr9 hP hS ls hl
    refine lv_iload_n hx hb dX2_firstError_4 rfl (lv_at hl 2 rfl) ?_
    refine lv_aload_n hx hb dX2_firstError_5 rfl (lv_at hl 0 rfl) ?_
    refine gf_X2_15 C hP hk dX2_firstError_6 ?_
    rw [hL]
    refine lv_icmp_ge (tgt := 35) hx hb dX2_firstError_9 (by decide) (fun c_9 => ?_) (fun c_9 => ?_)
    · have d_9 : L ≤ i := (cI_le rfl rfl (by omega) (by omega)).mp c_9
      refine lv_iload_n hx hb dX2_firstError_35 rfl (lv_at hl 1 rfl) ?_
      refine thn_I (run_S (As := [.int x]) (rest := []) C (k_X2_mayEnd l D cy z o d σ τ x) hP hS cw_X2_mayEnd (mA1 (i := 206) rfl rfl) ⟨rfl, rfl⟩ ⟨Nat.le_of_ble_eq_true rfl, Nat.le_of_ble_eq_true rfl⟩ rfl (Nat.le_of_ble_eq_true rfl) hl.1 ⟨Nat.zero_le _, Nat.zero_le _⟩ dX2_firstError_36) hS (fun H locs hP hS => ?_)
      refine lv_if_eq (tgt := 46) hx hb dX2_firstError_39 (by decide) (fun c_39 => ?_) (fun c_39 => ?_)
      · refine lv_aload_n hx hb dX2_firstError_46 rfl (lv_at hl 0 rfl) ?_
        refine gf_X2_15 C hP hk dX2_firstError_47 ?_
        exact ret_I C hP hS (nar_i _) rfl (by rw [← hr9, gf_X2_firstError]; rw [if_pos d_9, if_pos c_39]) rfl rfl dX2_firstError_50
      · refine lv_iconst (v := (-1)) hx hb dX2_firstError_42 (by decide) ?_
        refine lv_goto (tgt := 50) hx hb dX2_firstError_43 (by decide) ?_
        exact ret_I C hP hS (nar_i _) rfl (by rw [← hr9, gf_X2_firstError]; rw [if_pos d_9, if_neg c_39]) rfl rfl dX2_firstError_50
    · have d_9 : ¬ (L ≤ i) := fun h9 => c_9 ((cI_le rfl rfl (by omega) (by omega)).mpr h9)
      refine lv_iload_n hx hb dX2_firstError_12 rfl (lv_at hl 1 rfl) ?_
      refine lv_aload_n hx hb dX2_firstError_13 rfl (lv_at hl 0 rfl) ?_
      refine lv_iload_n hx hb dX2_firstError_14 rfl (lv_at hl 2 rfl) ?_
      refine thn_I (run_V (As := [.int (nI i)]) (rest := [.int x]) C (k_X2_sign l D cy z o d σ τ hk (nI i)) hP hS cw_X2_sign (mA1 (i := 199) rfl rfl) hk ⟨rfl, rfl⟩ ⟨Nat.le_of_ble_eq_true rfl, Nat.le_of_ble_eq_true rfl⟩ rfl (Nat.le_of_ble_eq_true rfl) hl.1 ⟨Nat.zero_le _, Nat.zero_le _⟩ dX2_firstError_15) hS (fun H locs hP hS => ?_)
      refine thn_I (run_S (As := [.int x, .int (f_X2_sign σ k (nI i))]) (rest := []) C (k_X2_placeAfter l D cy z o d σ τ x (f_X2_sign σ k (nI i))) hP hS cw_X2_placeAfter (mA1 (i := 203) rfl rfl) ⟨rfl, rfl⟩ ⟨Nat.le_of_ble_eq_true rfl, Nat.le_of_ble_eq_true rfl⟩ rfl (Nat.le_of_ble_eq_true rfl) hl.1 ⟨Nat.zero_le _, Nat.zero_le _⟩ dX2_firstError_18) hS (fun H locs hP hS => ?_)
      refine lv_istore_n (lv' := [(1, .int (f_X2_placeAfter x (f_X2_sign σ k (nI i)))), (0, .ref (z + k)), (2, .int (nI i))]) hx hb dX2_firstError_21 rfl hl (by decide) rfl (fun ls hl => ?_)
      refine lv_iload_n hx hb dX2_firstError_22 rfl (lv_at hl 0 rfl) ?_
      refine lv_iconst (v := (-1)) hx hb dX2_firstError_23 (by decide) ?_
      refine lv_icmp_ne (tgt := 29) hx hb dX2_firstError_24 (by decide) (fun c_24 => ?_) (fun c_24 => ?_)
      · refine lv_iinc (v := nI (i + 1)) (lv' := [(2, .int (nI (i + 1))), (1, .int (f_X2_placeAfter x (f_X2_sign σ k (nI i)))), (0, .ref (z + k))]) hx hb dX2_firstError_29 hl (k := 2) rfl (nI_1 i) (by decide) rfl (fun ls hl => ?_)
        refine lv_goto (tgt := 4) hx hb dX2_firstError_32 (by decide) ?_
        exact ih (f_X2_placeAfter x (f_X2_sign σ k (nI i))) (i + 1) σ τ _ _ hL (⟨by omega, by omega, by omega⟩) (by rw [← hr9, gf_X2_firstError]; rw [if_neg d_9, if_neg c_24]) hP hS ls (lv_sub hl [2, 1, 0] rfl)
      · refine lv_iload_n hx hb dX2_firstError_27 rfl (lv_at hl 2 rfl) ?_
        exact ret_I C hP hS (nar_i _) rfl (by rw [← hr9, gf_X2_firstError]; rw [if_neg d_9, if_pos c_24]) rfl rfl dX2_firstError_28
def f_X2_firstError (σ : Sg) (k : Nat) : Int32 :=
  gf_X2_firstError σ k (TL σ k) 81 0 0
set_option maxHeartbeats 4000000 in
set_option maxRecDepth 100000 in
theorem k_X2_firstError (l : Launch) (D : va_G) (cy : Nat → ClassId) (z : Nat) (o : Int64) (d : UInt64) (σ τ : Sg) {k : Nat} (hk : kd k = 2) (hT : TXA σ) : KI l yX2_firstError cX2_firstError 3 (some .int) rm_X2_firstError D cy z [.ref (z + k)] o d σ τ (f_X2_firstError σ k) σ τ := by
  refine met_of RX2 (plainFor_of_name (by decide)) rfl (Nat.le_of_ble_eq_true rfl) ?_
  intro p e s m args below meth c C hP hS ls hl
  obtain ⟨hx, hb, hr, hml, hown, hW, hlocks, hAm⟩ := id C
  have hl : lv_has ls 3 [(0, .ref (z + k))] := hl
  obtain ⟨hL, hL80⟩ := hT.of hk
  refine lv_iconst (v := 0) hx hb dX2_firstError_0 (by decide) ?_
  refine lv_istore_n (lv' := [(1, .int 0), (0, .ref (z + k))]) hx hb dX2_firstError_1 rfl hl (by decide) rfl (fun ls hl => ?_)
  refine lv_iconst (v := 0) hx hb dX2_firstError_2 (by decide) ?_
  refine lv_istore_n (lv' := [(2, .int 0), (1, .int 0), (0, .ref (z + k))]) hx hb dX2_firstError_3 rfl hl (by decide) rfl (fun ls hl => ?_)
  exact lp_X2_firstError C o d hk (TL σ k) (81) 0 0 σ τ _ _ hL (⟨by omega, by omega, by omega⟩) rfl hP hS ls (lv_sub hl [2, 1, 0] rfl)

theorem cw_X4_canRetrace : cwVt yX4_canRetrace cX4_canRetrace 5 (some .boolean) 4 1 := ⟨(mA2 (i := 225) rfl rfl), (mA2 (i := 226) rfl rfl), (mA1 (i := 3) rfl rfl), (mA2 (i := 227) rfl rfl), by decide +kernel, ⟨_, rfl, rfl⟩, by decide⟩
abbrev rm_X4_canRetrace : Room := { frames := 3, cells := 0, slots := 0, locals := 65 }
def gf_X4_canRetrace (σ : Sg) (k L : Nat) : Nat → Int32 → Int32 → Nat → Int32
  | 0, _, _, _ => 0
  | n + 1, x2, x3, i =>
    if L ≤ i then
      f_X4_hasRoom σ k x2 x3
    else
      gf_X4_canRetrace σ k L n (x2 + (f_X1_spent σ (k + 1) (nI i))) (x3 + (ab (f_X1_step σ (k + 1) (nI i)))) (i + 1)
set_option maxHeartbeats 4000000 in
set_option maxRecDepth 100000 in
theorem lp_X4_canRetrace {p : Program} {l : Launch} {e : Env} {s : State} {m : MethodId} {args : Array Value} {below : List Frame} {meth : Method} {c : Code} {D : va_G} {cy : Nat → ClassId} {z : Nat} (C : Bd p s m args meth c cX4_canRetrace 5 (some .boolean) RX4 D cy z) (o : Int64) (d : UInt64) {k : Nat} (hk : kd k = 4) (L : Nat) (x : Int32) {r9 : Int32} :
    ∀ (n : Nat) (x2 : Int32) (x3 : Int32) (i : Nat) (σ τ : Sg) (H : Heap) (locs : List Loc), (σ (k + 1) 2 = nI L) → (L ≤ 16 ∧ i ≤ 2000 ∧ L + 1 ≤ i + n ∧ 1 ≤ n) → (gf_X4_canRetrace σ k L n x2 x3 i = r9) → WP D cy z σ τ o d H → va_S (fz z) s.heap H locs → ∀ ls : Array Slot, lv_has ls 5 [(0, .ref (z + k)), (1, .int x), (2, .int x2), (3, .int x3), (4, .int (nI i))] → W p l e rm_X4_canRetrace s m args below meth c H locs 0 0 (MQ below (PoI D cy z o d r9 σ τ) args s 0 0 (fz z)) (F0 m 28 ls []) := by
  obtain ⟨hx, hb, hr, hml, hown, hW, hlocks, hAm⟩ := id C
  intro n
  induction n with
  | zero =>
    intro _ _ _ σ τ H locs hL hn9 _ hP hS ls hl
    exact absurd hn9 (by omega)
  | succ n ih =>
    intro x2 x3 i σ τ H locs hL hn9 hr9 hP hS ls hl
    refine lv_iload hx hb dX4_canRetrace_28 (lv_at hl 4 rfl) ?_
    refine lv_aload_n hx hb dX4_canRetrace_30 rfl (lv_at hl 0 rfl) ?_
    refine gf_X4_12 C hP hk dX4_canRetrace_31 ?_
    refine gf_X4_49 C hP (kd4_1 hk) dX4_canRetrace_34 ?_
    rw [hL]
    refine lv_icmp_ge (tgt := 73) hx hb dX4_canRetrace_37 (by decide) (fun c_37 => ?_) (fun c_37 => ?_)
    · have d_37 : L ≤ i := (cI_le rfl rfl (by omega) (by omega)).mp c_37
      refine lv_aload_n hx hb dX4_canRetrace_73 rfl (lv_at hl 0 rfl) ?_
      refine lv_iload_n hx hb dX4_canRetrace_74 rfl (lv_at hl 2 rfl) ?_
      refine lv_iload_n hx hb dX4_canRetrace_75 rfl (lv_at hl 3 rfl) ?_
      refine thn_I (run_V (As := [.int x2, .int x3]) (rest := []) C (k_X4_hasRoom l D cy z o d σ τ hk x2 x3) hP hS cw_X4_hasRoom (mA3 (i := 0) rfl rfl) hk ⟨rfl, rfl⟩ ⟨Nat.le_of_ble_eq_true rfl, Nat.le_of_ble_eq_true rfl⟩ rfl (Nat.le_of_ble_eq_true rfl) hl.1 ⟨Nat.zero_le _, Nat.zero_le _⟩ dX4_canRetrace_76) hS (fun H locs hP hS => ?_)
      exact ret_I C hP hS (nz_X4_hasRoom σ k x2 x3) rfl (by rw [← hr9, gf_X4_canRetrace]; rw [if_pos d_37]) rfl rfl dX4_canRetrace_79
    · have d_37 : ¬ (L ≤ i) := fun h9 => c_37 ((cI_le rfl rfl (by omega) (by omega)).mpr h9)
      refine lv_iload_n hx hb dX4_canRetrace_40 rfl (lv_at hl 2 rfl) ?_
      refine lv_aload_n hx hb dX4_canRetrace_41 rfl (lv_at hl 0 rfl) ?_
      refine gf_X4_12 C hP hk dX4_canRetrace_42 ?_
      refine lv_iload hx hb dX4_canRetrace_45 (lv_at hl 4 rfl) ?_
      refine thn_I (run_V (As := [.int (nI i)]) (rest := [.int x2]) C (k_X1_spent l D cy z o d σ τ (kd4_1 hk) (nI i)) hP hS cw_X1_spent (mA2 (i := 228) rfl rfl) (kd4_1 hk) ⟨rfl, rfl⟩ ⟨Nat.le_of_ble_eq_true rfl, Nat.le_of_ble_eq_true rfl⟩ rfl (Nat.le_of_ble_eq_true rfl) hl.1 ⟨Nat.zero_le _, Nat.zero_le _⟩ dX4_canRetrace_47) hS (fun H locs hP hS => ?_)
      refine lv_iadd hx hb dX4_canRetrace_50 ?_
      refine lv_istore_n (lv' := [(2, .int (x2 + (f_X1_spent σ (k + 1) (nI i)))), (0, .ref (z + k)), (1, .int x), (3, .int x3), (4, .int (nI i))]) hx hb dX4_canRetrace_51 rfl hl (by decide) rfl (fun ls hl => ?_)
      refine lv_iload_n hx hb dX4_canRetrace_52 rfl (lv_at hl 3 rfl) ?_
      refine lv_aload_n hx hb dX4_canRetrace_53 rfl (lv_at hl 1 rfl) ?_
      refine gf_X4_12 C hP hk dX4_canRetrace_54 ?_
      refine lv_iload hx hb dX4_canRetrace_57 (lv_at hl 4 rfl) ?_
      refine thn_I (run_V (As := [.int (nI i)]) (rest := [.int x3]) C (k_X1_step l D cy z o d σ τ (kd4_1 hk) (nI i)) hP hS cw_X1_step (mA2 (i := 236) rfl rfl) (kd4_1 hk) ⟨rfl, rfl⟩ ⟨Nat.le_of_ble_eq_true rfl, Nat.le_of_ble_eq_true rfl⟩ rfl (Nat.le_of_ble_eq_true rfl) hl.1 ⟨Nat.zero_le _, Nat.zero_le _⟩ dX4_canRetrace_59) hS (fun H locs hP hS => ?_)
      refine g_abs C (mA2 (i := 188) rfl rfl) (Nat.le_of_ble_eq_true rfl) (Nat.le_of_ble_eq_true rfl) ⟨Nat.zero_le _, Nat.zero_le _⟩ hl.1 dX4_canRetrace_62 ?_
      refine lv_iadd hx hb dX4_canRetrace_65 ?_
      refine lv_istore_n (lv' := [(3, .int (x3 + (ab (f_X1_step σ (k + 1) (nI i))))), (2, .int (x2 + (f_X1_spent σ (k + 1) (nI i)))), (0, .ref (z + k)), (1, .int x), (4, .int (nI i))]) hx hb dX4_canRetrace_66 rfl hl (by decide) rfl (fun ls hl => ?_)
      refine lv_iinc (v := nI (i + 1)) (lv' := [(4, .int (nI (i + 1))), (3, .int (x3 + (ab (f_X1_step σ (k + 1) (nI i))))), (2, .int (x2 + (f_X1_spent σ (k + 1) (nI i)))), (0, .ref (z + k)), (1, .int x)]) hx hb dX4_canRetrace_67 hl (k := 4) rfl (nI_1 i) (by decide) rfl (fun ls hl => ?_)
      refine lv_goto (tgt := 28) hx hb dX4_canRetrace_70 (by decide) ?_
      exact ih (x2 + (f_X1_spent σ (k + 1) (nI i))) (x3 + (ab (f_X1_step σ (k + 1) (nI i)))) (i + 1) σ τ _ _ hL (⟨by omega, by omega, by omega, by omega⟩) (by rw [← hr9, gf_X4_canRetrace]; rw [if_neg d_37]) hP hS ls (lv_sub hl [3, 4, 2, 1, 0] rfl)
def f_X4_canRetrace (σ : Sg) (k : Nat) (x : Int32) : Int32 :=
  if x ≤ (nI (Ln σ (k + 1))) then
    gf_X4_canRetrace σ k (Ln σ (k + 1)) 17 0 0 ((nI (Ln σ (k + 1)) - x).toNatClampNeg)
  else
    0
set_option maxHeartbeats 4000000 in
set_option maxRecDepth 100000 in
theorem k_X4_canRetrace (l : Launch) (D : va_G) (cy : Nat → ClassId) (z : Nat) (o : Int64) (d : UInt64) (σ τ : Sg) {k : Nat} (hk : kd k = 4) (x : Int32) (hG : LGA σ) (hx9 : -1000 ≤ x.toInt ∧ x.toInt ≤ 1000000) : KI l yX4_canRetrace cX4_canRetrace 5 (some .boolean) rm_X4_canRetrace D cy z [.ref (z + k), .int x] o d σ τ (f_X4_canRetrace σ k x) σ τ := by
  refine met_of RX4 (plainFor_of_name (by decide)) rfl (Nat.le_of_ble_eq_true rfl) ?_
  intro p e s m args below meth c C hP hS ls hl
  obtain ⟨hx, hb, hr, hml, hown, hW, hlocks, hAm⟩ := id C
  have hl : lv_has ls 5 [(0, .ref (z + k)), (1, .int x)] := hl
  obtain ⟨hL, hL16⟩ := hG.of (kd4_1 hk)
  refine lv_aload_n hx hb dX4_canRetrace_0 rfl (lv_at hl 0 rfl) ?_
  refine gf_X4_12 C hP hk dX4_canRetrace_1 ?_
  refine gf_X4_49 C hP (kd4_1 hk) dX4_canRetrace_4 ?_
  rw [hL]
  refine lv_iload_n hx hb dX4_canRetrace_7 rfl (lv_at hl 1 rfl) ?_
  refine lv_icmp_ge (tgt := 13) hx hb dX4_canRetrace_8 (by decide) (fun c_8 => ?_) (fun c_8 => ?_)
  · refine lv_iconst (v := 0) hx hb dX4_canRetrace_13 (by decide) ?_
    refine lv_istore_n (lv' := [(2, .int 0), (0, .ref (z + k)), (1, .int x)]) hx hb dX4_canRetrace_14 rfl hl (by decide) rfl (fun ls hl => ?_)
    refine lv_iconst (v := 0) hx hb dX4_canRetrace_15 (by decide) ?_
    refine lv_istore_n (lv' := [(3, .int 0), (2, .int 0), (0, .ref (z + k)), (1, .int x)]) hx hb dX4_canRetrace_16 rfl hl (by decide) rfl (fun ls hl => ?_)
    refine lv_aload_n hx hb dX4_canRetrace_17 rfl (lv_at hl 2 rfl) ?_
    refine gf_X4_12 C hP hk dX4_canRetrace_18 ?_
    refine gf_X4_49 C hP (kd4_1 hk) dX4_canRetrace_21 ?_
    rw [hL]
    refine lv_iload_n hx hb dX4_canRetrace_24 rfl (lv_at hl 3 rfl) ?_
    refine lv_isub hx hb dX4_canRetrace_25 ?_
    have hb9 := cr_b hx9 hL16 c_8
    rw [cr_a hx9 hL16 c_8]
    refine lv_istore (lv' := [(4, .int (nI ((nI (Ln σ (k + 1)) - x).toNatClampNeg))), (3, .int 0), (2, .int 0), (0, .ref (z + k)), (1, .int x)]) hx hb dX4_canRetrace_26 hl (by decide) rfl (fun ls hl => ?_)
    exact lp_X4_canRetrace C o d hk (Ln σ (k + 1)) x (17) 0 0 ((nI (Ln σ (k + 1)) - x).toNatClampNeg) σ τ _ _ hL (⟨by omega, by omega, by omega, by omega⟩) (by unfold f_X4_canRetrace; rw [if_pos c_8]) hP hS ls (lv_sub hl [3, 4, 2, 1, 0] rfl)
  · refine lv_iconst (v := 0) hx hb dX4_canRetrace_11 (by decide) ?_
    exact ret_I C hP hS nar_z0 rfl (by unfold f_X4_canRetrace; rw [if_neg c_8]) rfl rfl dX4_canRetrace_12

theorem cw_X4_retrace : cwVt yX4_retrace cX4_retrace 4 none 4 1 := ⟨(mA3 (i := 3) rfl rfl), (mA3 (i := 4) rfl rfl), (mA1 (i := 3) rfl rfl), (mA3 (i := 5) rfl rfl), by decide +kernel, ⟨_, rfl, rfl⟩, by decide⟩
abbrev rm_X4_retrace : Room := { frames := 3, cells := 0, slots := 0, locals := 65 }
def gs_X4_retrace (k : Nat) (x : Int32) : Nat → Nat → Sg → Sg
  | 0, _, σ => σ
  | n + 1, i, σ =>
    if x ≤ (nI i) then
      σ
    else
      gs_X4_retrace k x n (i + 1) (s_X1_dropLatest (s_X4_move σ k (f_X1_before σ (k + 1) ((σ (k + 1) 2) - 1)) (-(f_X1_step σ (k + 1) ((σ (k + 1) 2) - 1))) (f_X1_spent σ (k + 1) ((σ (k + 1) 2) - 1))) (k + 1))
set_option maxHeartbeats 4000000 in
set_option maxRecDepth 100000 in
theorem lp_X4_retrace {p : Program} {l : Launch} {e : Env} {s : State} {m : MethodId} {args : Array Value} {below : List Frame} {meth : Method} {c : Code} {D : va_G} {cy : Nat → ClassId} {z : Nat} (C : Bd p s m args meth c cX4_retrace 4 none RX4 D cy z) (o : Int64) (d : UInt64) {k : Nat} (hk : kd k = 4) (x : Int32) {σ9 : Sg} :
    ∀ (n : Nat) (i : Nat) (σ τ : Sg) (H : Heap) (locs : List Loc), (x.toInt ≤ 1000000 ∧ (i = 0 ∨ (i : Int) ≤ x.toInt) ∧ x.toInt + 1 ≤ (i : Int) + (n : Int) ∧ 1 ≤ n) → (gs_X4_retrace k x n i σ = σ9) → WP D cy z σ τ o d H → va_S (fz z) s.heap H locs → ∀ ls : Array Slot, lv_has ls 4 [(0, .ref (z + k)), (1, .int x), (2, .int (nI i))] → W p l e rm_X4_retrace s m args below meth c H locs 0 0 (MQ below (PoV D cy z o d σ9 τ) args s 0 0 (fz z)) (F0 m 2 ls []) := by
  obtain ⟨hx, hb, hr, hml, hown, hW, hlocks, hAm⟩ := id C
  intro n
  induction n with
  | zero =>
    intro _ σ τ H locs hn9 _ hP hS ls hl
    exact absurd hn9 (by omega)
  | succ n ih =>
    intro i σ τ H locs hn9 hs9 hP hS ls hl
    refine lv_iload_n hx hb dX4_retrace_2 rfl (lv_at hl 2 rfl) ?_
    refine lv_iload_n hx hb dX4_retrace_3 rfl (lv_at hl 1 rfl) ?_
    refine lv_icmp_ge (tgt := 59) hx hb dX4_retrace_4 (by decide) (fun c_4 => ?_) (fun c_4 => ?_)
    · exact ret_V C hP hS (by rw [← hs9, gs_X4_retrace]; rw [if_pos c_4]) rfl dX4_retrace_59
    · refine lv_aload_n hx hb dX4_retrace_7 rfl (lv_at hl 0 rfl) ?_
      refine gf_X4_12 C hP hk dX4_retrace_8 ?_
      refine gf_X4_49 C hP (kd4_1 hk) dX4_retrace_11 ?_
      refine lv_iconst (v := 1) hx hb dX4_retrace_14 (by decide) ?_
      refine lv_isub hx hb dX4_retrace_15 ?_
      refine lv_istore_n (lv' := [(3, .int ((σ (k + 1) 2) - 1)), (0, .ref (z + k)), (1, .int x), (2, .int (nI i))]) hx hb dX4_retrace_16 rfl hl (by decide) rfl (fun ls hl => ?_)
      refine lv_aload_n hx hb dX4_retrace_17 rfl (lv_at hl 1 rfl) ?_
      refine lv_aload_n hx hb dX4_retrace_18 rfl (lv_at hl 1 rfl) ?_
      refine gf_X4_12 C hP hk dX4_retrace_19 ?_
      refine lv_iload_n hx hb dX4_retrace_22 rfl (lv_at hl 0 rfl) ?_
      refine thn_I (run_V (As := [.int ((σ (k + 1) 2) - 1)]) (rest := [.ref (z + k)]) C (k_X1_before l D cy z o d σ τ (kd4_1 hk) ((σ (k + 1) 2) - 1)) hP hS cw_X1_before (mA3 (i := 6) rfl rfl) (kd4_1 hk) ⟨rfl, rfl⟩ ⟨Nat.le_of_ble_eq_true rfl, Nat.le_of_ble_eq_true rfl⟩ rfl (Nat.le_of_ble_eq_true rfl) hl.1 ⟨Nat.zero_le _, Nat.zero_le _⟩ dX4_retrace_23) hS (fun H locs hP hS => ?_)
      refine lv_aload_n hx hb dX4_retrace_26 rfl (lv_at hl 1 rfl) ?_
      refine gf_X4_12 C hP hk dX4_retrace_27 ?_
      refine lv_iload_n hx hb dX4_retrace_30 rfl (lv_at hl 0 rfl) ?_
      refine thn_I (run_V (As := [.int ((σ (k + 1) 2) - 1)]) (rest := [.int (f_X1_before σ (k + 1) ((σ (k + 1) 2) - 1)), .ref (z + k)]) C (k_X1_step l D cy z o d σ τ (kd4_1 hk) ((σ (k + 1) 2) - 1)) hP hS cw_X1_step (mA2 (i := 236) rfl rfl) (kd4_1 hk) ⟨rfl, rfl⟩ ⟨Nat.le_of_ble_eq_true rfl, Nat.le_of_ble_eq_true rfl⟩ rfl (Nat.le_of_ble_eq_true rfl) hl.1 ⟨Nat.zero_le _, Nat.zero_le _⟩ dX4_retrace_31) hS (fun H locs hP hS => ?_)
      refine lv_ineg hx hb dX4_retrace_34 ?_
      refine lv_aload_n hx hb dX4_retrace_35 rfl (lv_at hl 1 rfl) ?_
      refine gf_X4_12 C hP hk dX4_retrace_36 ?_
      refine lv_iload_n hx hb dX4_retrace_39 rfl (lv_at hl 0 rfl) ?_
      refine thn_I (run_V (As := [.int ((σ (k + 1) 2) - 1)]) (rest := [.int (-(f_X1_step σ (k + 1) ((σ (k + 1) 2) - 1))), .int (f_X1_before σ (k + 1) ((σ (k + 1) 2) - 1)), .ref (z + k)]) C (k_X1_spent l D cy z o d σ τ (kd4_1 hk) ((σ (k + 1) 2) - 1)) hP hS cw_X1_spent (mA2 (i := 228) rfl rfl) (kd4_1 hk) ⟨rfl, rfl⟩ ⟨Nat.le_of_ble_eq_true rfl, Nat.le_of_ble_eq_true rfl⟩ rfl (Nat.le_of_ble_eq_true rfl) hl.1 ⟨Nat.zero_le _, Nat.zero_le _⟩ dX4_retrace_40) hS (fun H locs hP hS => ?_)
      refine thn_V (run_V (As := [.int (f_X1_before σ (k + 1) ((σ (k + 1) 2) - 1)), .int (-(f_X1_step σ (k + 1) ((σ (k + 1) 2) - 1))), .int (f_X1_spent σ (k + 1) ((σ (k + 1) 2) - 1))]) (rest := []) C (k_X4_move l D cy z o d σ τ hk (f_X1_before σ (k + 1) ((σ (k + 1) 2) - 1)) (-(f_X1_step σ (k + 1) ((σ (k + 1) 2) - 1))) (f_X1_spent σ (k + 1) ((σ (k + 1) 2) - 1))) hP hS cw_X4_move (mA2 (i := 180) rfl rfl) hk ⟨rfl, rfl⟩ ⟨Nat.le_of_ble_eq_true rfl, Nat.le_of_ble_eq_true rfl⟩ rfl (Nat.le_of_ble_eq_true rfl) hl.1 ⟨Nat.zero_le _, Nat.zero_le _⟩ dX4_retrace_43) hS (fun H locs hP hS => ?_)
      refine lv_aload_n hx hb dX4_retrace_46 rfl (lv_at hl 1 rfl) ?_
      refine gf_X4_12 C hP hk dX4_retrace_47 ?_
      refine thn_V (run_V (As := []) (rest := []) C (k_X1_dropLatest l D cy z o d (s_X4_move σ k (f_X1_before σ (k + 1) ((σ (k + 1) 2) - 1)) (-(f_X1_step σ (k + 1) ((σ (k + 1) 2) - 1))) (f_X1_spent σ (k + 1) ((σ (k + 1) 2) - 1))) τ (kd4_1 hk)) hP hS cw_X1_dropLatest (mA3 (i := 10) rfl rfl) (kd4_1 hk) ⟨rfl, rfl⟩ ⟨Nat.le_of_ble_eq_true rfl, Nat.le_of_ble_eq_true rfl⟩ rfl (Nat.le_of_ble_eq_true rfl) hl.1 ⟨Nat.zero_le _, Nat.zero_le _⟩ dX4_retrace_50) hS (fun H locs hP hS => ?_)
      refine lv_iinc (v := nI (i + 1)) (lv' := [(2, .int (nI (i + 1))), (3, .int ((σ (k + 1) 2) - 1)), (0, .ref (z + k)), (1, .int x)]) hx hb dX4_retrace_53 hl (k := 3) rfl (nI_1 i) (by decide) rfl (fun ls hl => ?_)
      refine lv_goto (tgt := 2) hx hb dX4_retrace_56 (by decide) ?_
      exact ih (i + 1) (s_X1_dropLatest (s_X4_move σ k (f_X1_before σ (k + 1) ((σ (k + 1) 2) - 1)) (-(f_X1_step σ (k + 1) ((σ (k + 1) 2) - 1))) (f_X1_spent σ (k + 1) ((σ (k + 1) 2) - 1))) (k + 1)) τ _ _ (re_b c_4 hn9) (by rw [← hs9, gs_X4_retrace]; rw [if_neg c_4]) hP hS ls (lv_sub hl [2, 3, 0] rfl)
def s_X4_retrace (σ : Sg) (k : Nat) (x : Int32) : Sg :=
  gs_X4_retrace k x (x.toNatClampNeg + 1) 0 σ
set_option maxHeartbeats 4000000 in
set_option maxRecDepth 100000 in
theorem k_X4_retrace (l : Launch) (D : va_G) (cy : Nat → ClassId) (z : Nat) (o : Int64) (d : UInt64) (σ τ : Sg) {k : Nat} (hk : kd k = 4) (x : Int32) (hx9 : x.toInt ≤ 1000000) : KV l yX4_retrace cX4_retrace 4 rm_X4_retrace D cy z [.ref (z + k), .int x] o d σ τ (s_X4_retrace σ k x) τ := by
  refine met_of RX4 (plainFor_of_name (by decide)) rfl (Nat.le_of_ble_eq_true rfl) ?_
  intro p e s m args below meth c C hP hS ls hl
  obtain ⟨hx, hb, hr, hml, hown, hW, hlocks, hAm⟩ := id C
  have hl : lv_has ls 4 [(0, .ref (z + k)), (1, .int x)] := hl
  refine lv_iconst (v := 0) hx hb dX4_retrace_0 (by decide) ?_
  refine lv_istore_n (lv' := [(2, .int 0), (0, .ref (z + k)), (1, .int x)]) hx hb dX4_retrace_1 rfl hl (by decide) rfl (fun ls hl => ?_)
  exact lp_X4_retrace C o d hk x (x.toNatClampNeg + 1) 0 σ τ _ _ (⟨hx9, Or.inl rfl, by have := i32_nat x; omega, by omega⟩) rfl hP hS ls (lv_sub hl [1, 2, 0] rfl)

theorem cw_X4_copyFrom : cwVt yX4_copyFrom cX4_copyFrom 2 none 4 1 := ⟨(mA1 (i := 224) rfl rfl), (mA1 (i := 225) rfl rfl), (mA1 (i := 3) rfl rfl), (mA1 (i := 226) rfl rfl), by decide +kernel, ⟨_, rfl, rfl⟩, by decide⟩
abbrev rm_X4_copyFrom : Room := { frames := 1, cells := 0, slots := 0, locals := 22 }
def s_X4_copyFrom (σ : Sg) (k : Nat) (j : Nat) : Sg :=
  up (up (up (up (up (up (up (up (up (up (up (s_X1_copyFrom σ (k + 1) (j + 1)) k 1 ((s_X1_copyFrom σ (k + 1) (j + 1)) j 1)) k 2 ((up (s_X1_copyFrom σ (k + 1) (j + 1)) k 1 ((s_X1_copyFrom σ (k + 1) (j + 1)) j 1)) j 2)) k 3 ((up (up (s_X1_copyFrom σ (k + 1) (j + 1)) k 1 ((s_X1_copyFrom σ (k + 1) (j + 1)) j 1)) k 2 ((up (s_X1_copyFrom σ (k + 1) (j + 1)) k 1 ((s_X1_copyFrom σ (k + 1) (j + 1)) j 1)) j 2)) j 3)) k 4 ((up (up (up (s_X1_copyFrom σ (k + 1) (j + 1)) k 1 ((s_X1_copyFrom σ (k + 1) (j + 1)) j 1)) k 2 ((up (s_X1_copyFrom σ (k + 1) (j + 1)) k 1 ((s_X1_copyFrom σ (k + 1) (j + 1)) j 1)) j 2)) k 3 ((up (up (s_X1_copyFrom σ (k + 1) (j + 1)) k 1 ((s_X1_copyFrom σ (k + 1) (j + 1)) j 1)) k 2 ((up (s_X1_copyFrom σ (k + 1) (j + 1)) k 1 ((s_X1_copyFrom σ (k + 1) (j + 1)) j 1)) j 2)) j 3)) j 4)) k 5 ((up (up (up (up (s_X1_copyFrom σ (k + 1) (j + 1)) k 1 ((s_X1_copyFrom σ (k + 1) (j + 1)) j 1)) k 2 ((up (s_X1_copyFrom σ (k + 1) (j + 1)) k 1 ((s_X1_copyFrom σ (k + 1) (j + 1)) j 1)) j 2)) k 3 ((up (up (s_X1_copyFrom σ (k + 1) (j + 1)) k 1 ((s_X1_copyFrom σ (k + 1) (j + 1)) j 1)) k 2 ((up (s_X1_copyFrom σ (k + 1) (j + 1)) k 1 ((s_X1_copyFrom σ (k + 1) (j + 1)) j 1)) j 2)) j 3)) k 4 ((up (up (up (s_X1_copyFrom σ (k + 1) (j + 1)) k 1 ((s_X1_copyFrom σ (k + 1) (j + 1)) j 1)) k 2 ((up (s_X1_copyFrom σ (k + 1) (j + 1)) k 1 ((s_X1_copyFrom σ (k + 1) (j + 1)) j 1)) j 2)) k 3 ((up (up (s_X1_copyFrom σ (k + 1) (j + 1)) k 1 ((s_X1_copyFrom σ (k + 1) (j + 1)) j 1)) k 2 ((up (s_X1_copyFrom σ (k + 1) (j + 1)) k 1 ((s_X1_copyFrom σ (k + 1) (j + 1)) j 1)) j 2)) j 3)) j 4)) j 5)) k 6 ((up (up (up (up (up (s_X1_copyFrom σ (k + 1) (j + 1)) k 1 ((s_X1_copyFrom σ (k + 1) (j + 1)) j 1)) k 2 ((up (s_X1_copyFrom σ (k + 1) (j + 1)) k 1 ((s_X1_copyFrom σ (k + 1) (j + 1)) j 1)) j 2)) k 3 ((up (up (s_X1_copyFrom σ (k + 1) (j + 1)) k 1 ((s_X1_copyFrom σ (k + 1) (j + 1)) j 1)) k 2 ((up (s_X1_copyFrom σ (k + 1) (j + 1)) k 1 ((s_X1_copyFrom σ (k + 1) (j + 1)) j 1)) j 2)) j 3)) k 4 ((up (up (up (s_X1_copyFrom σ (k + 1) (j + 1)) k 1 ((s_X1_copyFrom σ (k + 1) (j + 1)) j 1)) k 2 ((up (s_X1_copyFrom σ (k + 1) (j + 1)) k 1 ((s_X1_copyFrom σ (k + 1) (j + 1)) j 1)) j 2)) k 3 ((up (up (s_X1_copyFrom σ (k + 1) (j + 1)) k 1 ((s_X1_copyFrom σ (k + 1) (j + 1)) j 1)) k 2 ((up (s_X1_copyFrom σ (k + 1) (j + 1)) k 1 ((s_X1_copyFrom σ (k + 1) (j + 1)) j 1)) j 2)) j 3)) j 4)) k 5 ((up (up (up (up (s_X1_copyFrom σ (k + 1) (j + 1)) k 1 ((s_X1_copyFrom σ (k + 1) (j + 1)) j 1)) k 2 ((up (s_X1_copyFrom σ (k + 1) (j + 1)) k 1 ((s_X1_copyFrom σ (k + 1) (j + 1)) j 1)) j 2)) k 3 ((up (up (s_X1_copyFrom σ (k + 1) (j + 1)) k 1 ((s_X1_copyFrom σ (k + 1) (j + 1)) j 1)) k 2 ((up (s_X1_copyFrom σ (k + 1) (j + 1)) k 1 ((s_X1_copyFrom σ (k + 1) (j + 1)) j 1)) j 2)) j 3)) k 4 ((up (up (up (s_X1_copyFrom σ (k + 1) (j + 1)) k 1 ((s_X1_copyFrom σ (k + 1) (j + 1)) j 1)) k 2 ((up (s_X1_copyFrom σ (k + 1) (j + 1)) k 1 ((s_X1_copyFrom σ (k + 1) (j + 1)) j 1)) j 2)) k 3 ((up (up (s_X1_copyFrom σ (k + 1) (j + 1)) k 1 ((s_X1_copyFrom σ (k + 1) (j + 1)) j 1)) k 2 ((up (s_X1_copyFrom σ (k + 1) (j + 1)) k 1 ((s_X1_copyFrom σ (k + 1) (j + 1)) j 1)) j 2)) j 3)) j 4)) j 5)) j 6)) k 7 ((up (up (up (up (up (up (s_X1_copyFrom σ (k + 1) (j + 1)) k 1 ((s_X1_copyFrom σ (k + 1) (j + 1)) j 1)) k 2 ((up (s_X1_copyFrom σ (k + 1) (j + 1)) k 1 ((s_X1_copyFrom σ (k + 1) (j + 1)) j 1)) j 2)) k 3 ((up (up (s_X1_copyFrom σ (k + 1) (j + 1)) k 1 ((s_X1_copyFrom σ (k + 1) (j + 1)) j 1)) k 2 ((up (s_X1_copyFrom σ (k + 1) (j + 1)) k 1 ((s_X1_copyFrom σ (k + 1) (j + 1)) j 1)) j 2)) j 3)) k 4 ((up (up (up (s_X1_copyFrom σ (k + 1) (j + 1)) k 1 ((s_X1_copyFrom σ (k + 1) (j + 1)) j 1)) k 2 ((up (s_X1_copyFrom σ (k + 1) (j + 1)) k 1 ((s_X1_copyFrom σ (k + 1) (j + 1)) j 1)) j 2)) k 3 ((up (up (s_X1_copyFrom σ (k + 1) (j + 1)) k 1 ((s_X1_copyFrom σ (k + 1) (j + 1)) j 1)) k 2 ((up (s_X1_copyFrom σ (k + 1) (j + 1)) k 1 ((s_X1_copyFrom σ (k + 1) (j + 1)) j 1)) j 2)) j 3)) j 4)) k 5 ((up (up (up (up (s_X1_copyFrom σ (k + 1) (j + 1)) k 1 ((s_X1_copyFrom σ (k + 1) (j + 1)) j 1)) k 2 ((up (s_X1_copyFrom σ (k + 1) (j + 1)) k 1 ((s_X1_copyFrom σ (k + 1) (j + 1)) j 1)) j 2)) k 3 ((up (up (s_X1_copyFrom σ (k + 1) (j + 1)) k 1 ((s_X1_copyFrom σ (k + 1) (j + 1)) j 1)) k 2 ((up (s_X1_copyFrom σ (k + 1) (j + 1)) k 1 ((s_X1_copyFrom σ (k + 1) (j + 1)) j 1)) j 2)) j 3)) k 4 ((up (up (up (s_X1_copyFrom σ (k + 1) (j + 1)) k 1 ((s_X1_copyFrom σ (k + 1) (j + 1)) j 1)) k 2 ((up (s_X1_copyFrom σ (k + 1) (j + 1)) k 1 ((s_X1_copyFrom σ (k + 1) (j + 1)) j 1)) j 2)) k 3 ((up (up (s_X1_copyFrom σ (k + 1) (j + 1)) k 1 ((s_X1_copyFrom σ (k + 1) (j + 1)) j 1)) k 2 ((up (s_X1_copyFrom σ (k + 1) (j + 1)) k 1 ((s_X1_copyFrom σ (k + 1) (j + 1)) j 1)) j 2)) j 3)) j 4)) j 5)) k 6 ((up (up (up (up (up (s_X1_copyFrom σ (k + 1) (j + 1)) k 1 ((s_X1_copyFrom σ (k + 1) (j + 1)) j 1)) k 2 ((up (s_X1_copyFrom σ (k + 1) (j + 1)) k 1 ((s_X1_copyFrom σ (k + 1) (j + 1)) j 1)) j 2)) k 3 ((up (up (s_X1_copyFrom σ (k + 1) (j + 1)) k 1 ((s_X1_copyFrom σ (k + 1) (j + 1)) j 1)) k 2 ((up (s_X1_copyFrom σ (k + 1) (j + 1)) k 1 ((s_X1_copyFrom σ (k + 1) (j + 1)) j 1)) j 2)) j 3)) k 4 ((up (up (up (s_X1_copyFrom σ (k + 1) (j + 1)) k 1 ((s_X1_copyFrom σ (k + 1) (j + 1)) j 1)) k 2 ((up (s_X1_copyFrom σ (k + 1) (j + 1)) k 1 ((s_X1_copyFrom σ (k + 1) (j + 1)) j 1)) j 2)) k 3 ((up (up (s_X1_copyFrom σ (k + 1) (j + 1)) k 1 ((s_X1_copyFrom σ (k + 1) (j + 1)) j 1)) k 2 ((up (s_X1_copyFrom σ (k + 1) (j + 1)) k 1 ((s_X1_copyFrom σ (k + 1) (j + 1)) j 1)) j 2)) j 3)) j 4)) k 5 ((up (up (up (up (s_X1_copyFrom σ (k + 1) (j + 1)) k 1 ((s_X1_copyFrom σ (k + 1) (j + 1)) j 1)) k 2 ((up (s_X1_copyFrom σ (k + 1) (j + 1)) k 1 ((s_X1_copyFrom σ (k + 1) (j + 1)) j 1)) j 2)) k 3 ((up (up (s_X1_copyFrom σ (k + 1) (j + 1)) k 1 ((s_X1_copyFrom σ (k + 1) (j + 1)) j 1)) k 2 ((up (s_X1_copyFrom σ (k + 1) (j + 1)) k 1 ((s_X1_copyFrom σ (k + 1) (j + 1)) j 1)) j 2)) j 3)) k 4 ((up (up (up (s_X1_copyFrom σ (k + 1) (j + 1)) k 1 ((s_X1_copyFrom σ (k + 1) (j + 1)) j 1)) k 2 ((up (s_X1_copyFrom σ (k + 1) (j + 1)) k 1 ((s_X1_copyFrom σ (k + 1) (j + 1)) j 1)) j 2)) k 3 ((up (up (s_X1_copyFrom σ (k + 1) (j + 1)) k 1 ((s_X1_copyFrom σ (k + 1) (j + 1)) j 1)) k 2 ((up (s_X1_copyFrom σ (k + 1) (j + 1)) k 1 ((s_X1_copyFrom σ (k + 1) (j + 1)) j 1)) j 2)) j 3)) j 4)) j 5)) j 6)) j 7)) k 8 ((up (up (up (up (up (up (up (s_X1_copyFrom σ (k + 1) (j + 1)) k 1 ((s_X1_copyFrom σ (k + 1) (j + 1)) j 1)) k 2 ((up (s_X1_copyFrom σ (k + 1) (j + 1)) k 1 ((s_X1_copyFrom σ (k + 1) (j + 1)) j 1)) j 2)) k 3 ((up (up (s_X1_copyFrom σ (k + 1) (j + 1)) k 1 ((s_X1_copyFrom σ (k + 1) (j + 1)) j 1)) k 2 ((up (s_X1_copyFrom σ (k + 1) (j + 1)) k 1 ((s_X1_copyFrom σ (k + 1) (j + 1)) j 1)) j 2)) j 3)) k 4 ((up (up (up (s_X1_copyFrom σ (k + 1) (j + 1)) k 1 ((s_X1_copyFrom σ (k + 1) (j + 1)) j 1)) k 2 ((up (s_X1_copyFrom σ (k + 1) (j + 1)) k 1 ((s_X1_copyFrom σ (k + 1) (j + 1)) j 1)) j 2)) k 3 ((up (up (s_X1_copyFrom σ (k + 1) (j + 1)) k 1 ((s_X1_copyFrom σ (k + 1) (j + 1)) j 1)) k 2 ((up (s_X1_copyFrom σ (k + 1) (j + 1)) k 1 ((s_X1_copyFrom σ (k + 1) (j + 1)) j 1)) j 2)) j 3)) j 4)) k 5 ((up (up (up (up (s_X1_copyFrom σ (k + 1) (j + 1)) k 1 ((s_X1_copyFrom σ (k + 1) (j + 1)) j 1)) k 2 ((up (s_X1_copyFrom σ (k + 1) (j + 1)) k 1 ((s_X1_copyFrom σ (k + 1) (j + 1)) j 1)) j 2)) k 3 ((up (up (s_X1_copyFrom σ (k + 1) (j + 1)) k 1 ((s_X1_copyFrom σ (k + 1) (j + 1)) j 1)) k 2 ((up (s_X1_copyFrom σ (k + 1) (j + 1)) k 1 ((s_X1_copyFrom σ (k + 1) (j + 1)) j 1)) j 2)) j 3)) k 4 ((up (up (up (s_X1_copyFrom σ (k + 1) (j + 1)) k 1 ((s_X1_copyFrom σ (k + 1) (j + 1)) j 1)) k 2 ((up (s_X1_copyFrom σ (k + 1) (j + 1)) k 1 ((s_X1_copyFrom σ (k + 1) (j + 1)) j 1)) j 2)) k 3 ((up (up (s_X1_copyFrom σ (k + 1) (j + 1)) k 1 ((s_X1_copyFrom σ (k + 1) (j + 1)) j 1)) k 2 ((up (s_X1_copyFrom σ (k + 1) (j + 1)) k 1 ((s_X1_copyFrom σ (k + 1) (j + 1)) j 1)) j 2)) j 3)) j 4)) j 5)) k 6 ((up (up (up (up (up (s_X1_copyFrom σ (k + 1) (j + 1)) k 1 ((s_X1_copyFrom σ (k + 1) (j + 1)) j 1)) k 2 ((up (s_X1_copyFrom σ (k + 1) (j + 1)) k 1 ((s_X1_copyFrom σ (k + 1) (j + 1)) j 1)) j 2)) k 3 ((up (up (s_X1_copyFrom σ (k + 1) (j + 1)) k 1 ((s_X1_copyFrom σ (k + 1) (j + 1)) j 1)) k 2 ((up (s_X1_copyFrom σ (k + 1) (j + 1)) k 1 ((s_X1_copyFrom σ (k + 1) (j + 1)) j 1)) j 2)) j 3)) k 4 ((up (up (up (s_X1_copyFrom σ (k + 1) (j + 1)) k 1 ((s_X1_copyFrom σ (k + 1) (j + 1)) j 1)) k 2 ((up (s_X1_copyFrom σ (k + 1) (j + 1)) k 1 ((s_X1_copyFrom σ (k + 1) (j + 1)) j 1)) j 2)) k 3 ((up (up (s_X1_copyFrom σ (k + 1) (j + 1)) k 1 ((s_X1_copyFrom σ (k + 1) (j + 1)) j 1)) k 2 ((up (s_X1_copyFrom σ (k + 1) (j + 1)) k 1 ((s_X1_copyFrom σ (k + 1) (j + 1)) j 1)) j 2)) j 3)) j 4)) k 5 ((up (up (up (up (s_X1_copyFrom σ (k + 1) (j + 1)) k 1 ((s_X1_copyFrom σ (k + 1) (j + 1)) j 1)) k 2 ((up (s_X1_copyFrom σ (k + 1) (j + 1)) k 1 ((s_X1_copyFrom σ (k + 1) (j + 1)) j 1)) j 2)) k 3 ((up (up (s_X1_copyFrom σ (k + 1) (j + 1)) k 1 ((s_X1_copyFrom σ (k + 1) (j + 1)) j 1)) k 2 ((up (s_X1_copyFrom σ (k + 1) (j + 1)) k 1 ((s_X1_copyFrom σ (k + 1) (j + 1)) j 1)) j 2)) j 3)) k 4 ((up (up (up (s_X1_copyFrom σ (k + 1) (j + 1)) k 1 ((s_X1_copyFrom σ (k + 1) (j + 1)) j 1)) k 2 ((up (s_X1_copyFrom σ (k + 1) (j + 1)) k 1 ((s_X1_copyFrom σ (k + 1) (j + 1)) j 1)) j 2)) k 3 ((up (up (s_X1_copyFrom σ (k + 1) (j + 1)) k 1 ((s_X1_copyFrom σ (k + 1) (j + 1)) j 1)) k 2 ((up (s_X1_copyFrom σ (k + 1) (j + 1)) k 1 ((s_X1_copyFrom σ (k + 1) (j + 1)) j 1)) j 2)) j 3)) j 4)) j 5)) j 6)) k 7 ((up (up (up (up (up (up (s_X1_copyFrom σ (k + 1) (j + 1)) k 1 ((s_X1_copyFrom σ (k + 1) (j + 1)) j 1)) k 2 ((up (s_X1_copyFrom σ (k + 1) (j + 1)) k 1 ((s_X1_copyFrom σ (k + 1) (j + 1)) j 1)) j 2)) k 3 ((up (up (s_X1_copyFrom σ (k + 1) (j + 1)) k 1 ((s_X1_copyFrom σ (k + 1) (j + 1)) j 1)) k 2 ((up (s_X1_copyFrom σ (k + 1) (j + 1)) k 1 ((s_X1_copyFrom σ (k + 1) (j + 1)) j 1)) j 2)) j 3)) k 4 ((up (up (up (s_X1_copyFrom σ (k + 1) (j + 1)) k 1 ((s_X1_copyFrom σ (k + 1) (j + 1)) j 1)) k 2 ((up (s_X1_copyFrom σ (k + 1) (j + 1)) k 1 ((s_X1_copyFrom σ (k + 1) (j + 1)) j 1)) j 2)) k 3 ((up (up (s_X1_copyFrom σ (k + 1) (j + 1)) k 1 ((s_X1_copyFrom σ (k + 1) (j + 1)) j 1)) k 2 ((up (s_X1_copyFrom σ (k + 1) (j + 1)) k 1 ((s_X1_copyFrom σ (k + 1) (j + 1)) j 1)) j 2)) j 3)) j 4)) k 5 ((up (up (up (up (s_X1_copyFrom σ (k + 1) (j + 1)) k 1 ((s_X1_copyFrom σ (k + 1) (j + 1)) j 1)) k 2 ((up (s_X1_copyFrom σ (k + 1) (j + 1)) k 1 ((s_X1_copyFrom σ (k + 1) (j + 1)) j 1)) j 2)) k 3 ((up (up (s_X1_copyFrom σ (k + 1) (j + 1)) k 1 ((s_X1_copyFrom σ (k + 1) (j + 1)) j 1)) k 2 ((up (s_X1_copyFrom σ (k + 1) (j + 1)) k 1 ((s_X1_copyFrom σ (k + 1) (j + 1)) j 1)) j 2)) j 3)) k 4 ((up (up (up (s_X1_copyFrom σ (k + 1) (j + 1)) k 1 ((s_X1_copyFrom σ (k + 1) (j + 1)) j 1)) k 2 ((up (s_X1_copyFrom σ (k + 1) (j + 1)) k 1 ((s_X1_copyFrom σ (k + 1) (j + 1)) j 1)) j 2)) k 3 ((up (up (s_X1_copyFrom σ (k + 1) (j + 1)) k 1 ((s_X1_copyFrom σ (k + 1) (j + 1)) j 1)) k 2 ((up (s_X1_copyFrom σ (k + 1) (j + 1)) k 1 ((s_X1_copyFrom σ (k + 1) (j + 1)) j 1)) j 2)) j 3)) j 4)) j 5)) k 6 ((up (up (up (up (up (s_X1_copyFrom σ (k + 1) (j + 1)) k 1 ((s_X1_copyFrom σ (k + 1) (j + 1)) j 1)) k 2 ((up (s_X1_copyFrom σ (k + 1) (j + 1)) k 1 ((s_X1_copyFrom σ (k + 1) (j + 1)) j 1)) j 2)) k 3 ((up (up (s_X1_copyFrom σ (k + 1) (j + 1)) k 1 ((s_X1_copyFrom σ (k + 1) (j + 1)) j 1)) k 2 ((up (s_X1_copyFrom σ (k + 1) (j + 1)) k 1 ((s_X1_copyFrom σ (k + 1) (j + 1)) j 1)) j 2)) j 3)) k 4 ((up (up (up (s_X1_copyFrom σ (k + 1) (j + 1)) k 1 ((s_X1_copyFrom σ (k + 1) (j + 1)) j 1)) k 2 ((up (s_X1_copyFrom σ (k + 1) (j + 1)) k 1 ((s_X1_copyFrom σ (k + 1) (j + 1)) j 1)) j 2)) k 3 ((up (up (s_X1_copyFrom σ (k + 1) (j + 1)) k 1 ((s_X1_copyFrom σ (k + 1) (j + 1)) j 1)) k 2 ((up (s_X1_copyFrom σ (k + 1) (j + 1)) k 1 ((s_X1_copyFrom σ (k + 1) (j + 1)) j 1)) j 2)) j 3)) j 4)) k 5 ((up (up (up (up (s_X1_copyFrom σ (k + 1) (j + 1)) k 1 ((s_X1_copyFrom σ (k + 1) (j + 1)) j 1)) k 2 ((up (s_X1_copyFrom σ (k + 1) (j + 1)) k 1 ((s_X1_copyFrom σ (k + 1) (j + 1)) j 1)) j 2)) k 3 ((up (up (s_X1_copyFrom σ (k + 1) (j + 1)) k 1 ((s_X1_copyFrom σ (k + 1) (j + 1)) j 1)) k 2 ((up (s_X1_copyFrom σ (k + 1) (j + 1)) k 1 ((s_X1_copyFrom σ (k + 1) (j + 1)) j 1)) j 2)) j 3)) k 4 ((up (up (up (s_X1_copyFrom σ (k + 1) (j + 1)) k 1 ((s_X1_copyFrom σ (k + 1) (j + 1)) j 1)) k 2 ((up (s_X1_copyFrom σ (k + 1) (j + 1)) k 1 ((s_X1_copyFrom σ (k + 1) (j + 1)) j 1)) j 2)) k 3 ((up (up (s_X1_copyFrom σ (k + 1) (j + 1)) k 1 ((s_X1_copyFrom σ (k + 1) (j + 1)) j 1)) k 2 ((up (s_X1_copyFrom σ (k + 1) (j + 1)) k 1 ((s_X1_copyFrom σ (k + 1) (j + 1)) j 1)) j 2)) j 3)) j 4)) j 5)) j 6)) j 7)) j 8)) k 9 ((up (up (up (up (up (up (up (up (s_X1_copyFrom σ (k + 1) (j + 1)) k 1 ((s_X1_copyFrom σ (k + 1) (j + 1)) j 1)) k 2 ((up (s_X1_copyFrom σ (k + 1) (j + 1)) k 1 ((s_X1_copyFrom σ (k + 1) (j + 1)) j 1)) j 2)) k 3 ((up (up (s_X1_copyFrom σ (k + 1) (j + 1)) k 1 ((s_X1_copyFrom σ (k + 1) (j + 1)) j 1)) k 2 ((up (s_X1_copyFrom σ (k + 1) (j + 1)) k 1 ((s_X1_copyFrom σ (k + 1) (j + 1)) j 1)) j 2)) j 3)) k 4 ((up (up (up (s_X1_copyFrom σ (k + 1) (j + 1)) k 1 ((s_X1_copyFrom σ (k + 1) (j + 1)) j 1)) k 2 ((up (s_X1_copyFrom σ (k + 1) (j + 1)) k 1 ((s_X1_copyFrom σ (k + 1) (j + 1)) j 1)) j 2)) k 3 ((up (up (s_X1_copyFrom σ (k + 1) (j + 1)) k 1 ((s_X1_copyFrom σ (k + 1) (j + 1)) j 1)) k 2 ((up (s_X1_copyFrom σ (k + 1) (j + 1)) k 1 ((s_X1_copyFrom σ (k + 1) (j + 1)) j 1)) j 2)) j 3)) j 4)) k 5 ((up (up (up (up (s_X1_copyFrom σ (k + 1) (j + 1)) k 1 ((s_X1_copyFrom σ (k + 1) (j + 1)) j 1)) k 2 ((up (s_X1_copyFrom σ (k + 1) (j + 1)) k 1 ((s_X1_copyFrom σ (k + 1) (j + 1)) j 1)) j 2)) k 3 ((up (up (s_X1_copyFrom σ (k + 1) (j + 1)) k 1 ((s_X1_copyFrom σ (k + 1) (j + 1)) j 1)) k 2 ((up (s_X1_copyFrom σ (k + 1) (j + 1)) k 1 ((s_X1_copyFrom σ (k + 1) (j + 1)) j 1)) j 2)) j 3)) k 4 ((up (up (up (s_X1_copyFrom σ (k + 1) (j + 1)) k 1 ((s_X1_copyFrom σ (k + 1) (j + 1)) j 1)) k 2 ((up (s_X1_copyFrom σ (k + 1) (j + 1)) k 1 ((s_X1_copyFrom σ (k + 1) (j + 1)) j 1)) j 2)) k 3 ((up (up (s_X1_copyFrom σ (k + 1) (j + 1)) k 1 ((s_X1_copyFrom σ (k + 1) (j + 1)) j 1)) k 2 ((up (s_X1_copyFrom σ (k + 1) (j + 1)) k 1 ((s_X1_copyFrom σ (k + 1) (j + 1)) j 1)) j 2)) j 3)) j 4)) j 5)) k 6 ((up (up (up (up (up (s_X1_copyFrom σ (k + 1) (j + 1)) k 1 ((s_X1_copyFrom σ (k + 1) (j + 1)) j 1)) k 2 ((up (s_X1_copyFrom σ (k + 1) (j + 1)) k 1 ((s_X1_copyFrom σ (k + 1) (j + 1)) j 1)) j 2)) k 3 ((up (up (s_X1_copyFrom σ (k + 1) (j + 1)) k 1 ((s_X1_copyFrom σ (k + 1) (j + 1)) j 1)) k 2 ((up (s_X1_copyFrom σ (k + 1) (j + 1)) k 1 ((s_X1_copyFrom σ (k + 1) (j + 1)) j 1)) j 2)) j 3)) k 4 ((up (up (up (s_X1_copyFrom σ (k + 1) (j + 1)) k 1 ((s_X1_copyFrom σ (k + 1) (j + 1)) j 1)) k 2 ((up (s_X1_copyFrom σ (k + 1) (j + 1)) k 1 ((s_X1_copyFrom σ (k + 1) (j + 1)) j 1)) j 2)) k 3 ((up (up (s_X1_copyFrom σ (k + 1) (j + 1)) k 1 ((s_X1_copyFrom σ (k + 1) (j + 1)) j 1)) k 2 ((up (s_X1_copyFrom σ (k + 1) (j + 1)) k 1 ((s_X1_copyFrom σ (k + 1) (j + 1)) j 1)) j 2)) j 3)) j 4)) k 5 ((up (up (up (up (s_X1_copyFrom σ (k + 1) (j + 1)) k 1 ((s_X1_copyFrom σ (k + 1) (j + 1)) j 1)) k 2 ((up (s_X1_copyFrom σ (k + 1) (j + 1)) k 1 ((s_X1_copyFrom σ (k + 1) (j + 1)) j 1)) j 2)) k 3 ((up (up (s_X1_copyFrom σ (k + 1) (j + 1)) k 1 ((s_X1_copyFrom σ (k + 1) (j + 1)) j 1)) k 2 ((up (s_X1_copyFrom σ (k + 1) (j + 1)) k 1 ((s_X1_copyFrom σ (k + 1) (j + 1)) j 1)) j 2)) j 3)) k 4 ((up (up (up (s_X1_copyFrom σ (k + 1) (j + 1)) k 1 ((s_X1_copyFrom σ (k + 1) (j + 1)) j 1)) k 2 ((up (s_X1_copyFrom σ (k + 1) (j + 1)) k 1 ((s_X1_copyFrom σ (k + 1) (j + 1)) j 1)) j 2)) k 3 ((up (up (s_X1_copyFrom σ (k + 1) (j + 1)) k 1 ((s_X1_copyFrom σ (k + 1) (j + 1)) j 1)) k 2 ((up (s_X1_copyFrom σ (k + 1) (j + 1)) k 1 ((s_X1_copyFrom σ (k + 1) (j + 1)) j 1)) j 2)) j 3)) j 4)) j 5)) j 6)) k 7 ((up (up (up (up (up (up (s_X1_copyFrom σ (k + 1) (j + 1)) k 1 ((s_X1_copyFrom σ (k + 1) (j + 1)) j 1)) k 2 ((up (s_X1_copyFrom σ (k + 1) (j + 1)) k 1 ((s_X1_copyFrom σ (k + 1) (j + 1)) j 1)) j 2)) k 3 ((up (up (s_X1_copyFrom σ (k + 1) (j + 1)) k 1 ((s_X1_copyFrom σ (k + 1) (j + 1)) j 1)) k 2 ((up (s_X1_copyFrom σ (k + 1) (j + 1)) k 1 ((s_X1_copyFrom σ (k + 1) (j + 1)) j 1)) j 2)) j 3)) k 4 ((up (up (up (s_X1_copyFrom σ (k + 1) (j + 1)) k 1 ((s_X1_copyFrom σ (k + 1) (j + 1)) j 1)) k 2 ((up (s_X1_copyFrom σ (k + 1) (j + 1)) k 1 ((s_X1_copyFrom σ (k + 1) (j + 1)) j 1)) j 2)) k 3 ((up (up (s_X1_copyFrom σ (k + 1) (j + 1)) k 1 ((s_X1_copyFrom σ (k + 1) (j + 1)) j 1)) k 2 ((up (s_X1_copyFrom σ (k + 1) (j + 1)) k 1 ((s_X1_copyFrom σ (k + 1) (j + 1)) j 1)) j 2)) j 3)) j 4)) k 5 ((up (up (up (up (s_X1_copyFrom σ (k + 1) (j + 1)) k 1 ((s_X1_copyFrom σ (k + 1) (j + 1)) j 1)) k 2 ((up (s_X1_copyFrom σ (k + 1) (j + 1)) k 1 ((s_X1_copyFrom σ (k + 1) (j + 1)) j 1)) j 2)) k 3 ((up (up (s_X1_copyFrom σ (k + 1) (j + 1)) k 1 ((s_X1_copyFrom σ (k + 1) (j + 1)) j 1)) k 2 ((up (s_X1_copyFrom σ (k + 1) (j + 1)) k 1 ((s_X1_copyFrom σ (k + 1) (j + 1)) j 1)) j 2)) j 3)) k 4 ((up (up (up (s_X1_copyFrom σ (k + 1) (j + 1)) k 1 ((s_X1_copyFrom σ (k + 1) (j + 1)) j 1)) k 2 ((up (s_X1_copyFrom σ (k + 1) (j + 1)) k 1 ((s_X1_copyFrom σ (k + 1) (j + 1)) j 1)) j 2)) k 3 ((up (up (s_X1_copyFrom σ (k + 1) (j + 1)) k 1 ((s_X1_copyFrom σ (k + 1) (j + 1)) j 1)) k 2 ((up (s_X1_copyFrom σ (k + 1) (j + 1)) k 1 ((s_X1_copyFrom σ (k + 1) (j + 1)) j 1)) j 2)) j 3)) j 4)) j 5)) k 6 ((up (up (up (up (up (s_X1_copyFrom σ (k + 1) (j + 1)) k 1 ((s_X1_copyFrom σ (k + 1) (j + 1)) j 1)) k 2 ((up (s_X1_copyFrom σ (k + 1) (j + 1)) k 1 ((s_X1_copyFrom σ (k + 1) (j + 1)) j 1)) j 2)) k 3 ((up (up (s_X1_copyFrom σ (k + 1) (j + 1)) k 1 ((s_X1_copyFrom σ (k + 1) (j + 1)) j 1)) k 2 ((up (s_X1_copyFrom σ (k + 1) (j + 1)) k 1 ((s_X1_copyFrom σ (k + 1) (j + 1)) j 1)) j 2)) j 3)) k 4 ((up (up (up (s_X1_copyFrom σ (k + 1) (j + 1)) k 1 ((s_X1_copyFrom σ (k + 1) (j + 1)) j 1)) k 2 ((up (s_X1_copyFrom σ (k + 1) (j + 1)) k 1 ((s_X1_copyFrom σ (k + 1) (j + 1)) j 1)) j 2)) k 3 ((up (up (s_X1_copyFrom σ (k + 1) (j + 1)) k 1 ((s_X1_copyFrom σ (k + 1) (j + 1)) j 1)) k 2 ((up (s_X1_copyFrom σ (k + 1) (j + 1)) k 1 ((s_X1_copyFrom σ (k + 1) (j + 1)) j 1)) j 2)) j 3)) j 4)) k 5 ((up (up (up (up (s_X1_copyFrom σ (k + 1) (j + 1)) k 1 ((s_X1_copyFrom σ (k + 1) (j + 1)) j 1)) k 2 ((up (s_X1_copyFrom σ (k + 1) (j + 1)) k 1 ((s_X1_copyFrom σ (k + 1) (j + 1)) j 1)) j 2)) k 3 ((up (up (s_X1_copyFrom σ (k + 1) (j + 1)) k 1 ((s_X1_copyFrom σ (k + 1) (j + 1)) j 1)) k 2 ((up (s_X1_copyFrom σ (k + 1) (j + 1)) k 1 ((s_X1_copyFrom σ (k + 1) (j + 1)) j 1)) j 2)) j 3)) k 4 ((up (up (up (s_X1_copyFrom σ (k + 1) (j + 1)) k 1 ((s_X1_copyFrom σ (k + 1) (j + 1)) j 1)) k 2 ((up (s_X1_copyFrom σ (k + 1) (j + 1)) k 1 ((s_X1_copyFrom σ (k + 1) (j + 1)) j 1)) j 2)) k 3 ((up (up (s_X1_copyFrom σ (k + 1) (j + 1)) k 1 ((s_X1_copyFrom σ (k + 1) (j + 1)) j 1)) k 2 ((up (s_X1_copyFrom σ (k + 1) (j + 1)) k 1 ((s_X1_copyFrom σ (k + 1) (j + 1)) j 1)) j 2)) j 3)) j 4)) j 5)) j 6)) j 7)) k 8 ((up (up (up (up (up (up (up (s_X1_copyFrom σ (k + 1) (j + 1)) k 1 ((s_X1_copyFrom σ (k + 1) (j + 1)) j 1)) k 2 ((up (s_X1_copyFrom σ (k + 1) (j + 1)) k 1 ((s_X1_copyFrom σ (k + 1) (j + 1)) j 1)) j 2)) k 3 ((up (up (s_X1_copyFrom σ (k + 1) (j + 1)) k 1 ((s_X1_copyFrom σ (k + 1) (j + 1)) j 1)) k 2 ((up (s_X1_copyFrom σ (k + 1) (j + 1)) k 1 ((s_X1_copyFrom σ (k + 1) (j + 1)) j 1)) j 2)) j 3)) k 4 ((up (up (up (s_X1_copyFrom σ (k + 1) (j + 1)) k 1 ((s_X1_copyFrom σ (k + 1) (j + 1)) j 1)) k 2 ((up (s_X1_copyFrom σ (k + 1) (j + 1)) k 1 ((s_X1_copyFrom σ (k + 1) (j + 1)) j 1)) j 2)) k 3 ((up (up (s_X1_copyFrom σ (k + 1) (j + 1)) k 1 ((s_X1_copyFrom σ (k + 1) (j + 1)) j 1)) k 2 ((up (s_X1_copyFrom σ (k + 1) (j + 1)) k 1 ((s_X1_copyFrom σ (k + 1) (j + 1)) j 1)) j 2)) j 3)) j 4)) k 5 ((up (up (up (up (s_X1_copyFrom σ (k + 1) (j + 1)) k 1 ((s_X1_copyFrom σ (k + 1) (j + 1)) j 1)) k 2 ((up (s_X1_copyFrom σ (k + 1) (j + 1)) k 1 ((s_X1_copyFrom σ (k + 1) (j + 1)) j 1)) j 2)) k 3 ((up (up (s_X1_copyFrom σ (k + 1) (j + 1)) k 1 ((s_X1_copyFrom σ (k + 1) (j + 1)) j 1)) k 2 ((up (s_X1_copyFrom σ (k + 1) (j + 1)) k 1 ((s_X1_copyFrom σ (k + 1) (j + 1)) j 1)) j 2)) j 3)) k 4 ((up (up (up (s_X1_copyFrom σ (k + 1) (j + 1)) k 1 ((s_X1_copyFrom σ (k + 1) (j + 1)) j 1)) k 2 ((up (s_X1_copyFrom σ (k + 1) (j + 1)) k 1 ((s_X1_copyFrom σ (k + 1) (j + 1)) j 1)) j 2)) k 3 ((up (up (s_X1_copyFrom σ (k + 1) (j + 1)) k 1 ((s_X1_copyFrom σ (k + 1) (j + 1)) j 1)) k 2 ((up (s_X1_copyFrom σ (k + 1) (j + 1)) k 1 ((s_X1_copyFrom σ (k + 1) (j + 1)) j 1)) j 2)) j 3)) j 4)) j 5)) k 6 ((up (up (up (up (up (s_X1_copyFrom σ (k + 1) (j + 1)) k 1 ((s_X1_copyFrom σ (k + 1) (j + 1)) j 1)) k 2 ((up (s_X1_copyFrom σ (k + 1) (j + 1)) k 1 ((s_X1_copyFrom σ (k + 1) (j + 1)) j 1)) j 2)) k 3 ((up (up (s_X1_copyFrom σ (k + 1) (j + 1)) k 1 ((s_X1_copyFrom σ (k + 1) (j + 1)) j 1)) k 2 ((up (s_X1_copyFrom σ (k + 1) (j + 1)) k 1 ((s_X1_copyFrom σ (k + 1) (j + 1)) j 1)) j 2)) j 3)) k 4 ((up (up (up (s_X1_copyFrom σ (k + 1) (j + 1)) k 1 ((s_X1_copyFrom σ (k + 1) (j + 1)) j 1)) k 2 ((up (s_X1_copyFrom σ (k + 1) (j + 1)) k 1 ((s_X1_copyFrom σ (k + 1) (j + 1)) j 1)) j 2)) k 3 ((up (up (s_X1_copyFrom σ (k + 1) (j + 1)) k 1 ((s_X1_copyFrom σ (k + 1) (j + 1)) j 1)) k 2 ((up (s_X1_copyFrom σ (k + 1) (j + 1)) k 1 ((s_X1_copyFrom σ (k + 1) (j + 1)) j 1)) j 2)) j 3)) j 4)) k 5 ((up (up (up (up (s_X1_copyFrom σ (k + 1) (j + 1)) k 1 ((s_X1_copyFrom σ (k + 1) (j + 1)) j 1)) k 2 ((up (s_X1_copyFrom σ (k + 1) (j + 1)) k 1 ((s_X1_copyFrom σ (k + 1) (j + 1)) j 1)) j 2)) k 3 ((up (up (s_X1_copyFrom σ (k + 1) (j + 1)) k 1 ((s_X1_copyFrom σ (k + 1) (j + 1)) j 1)) k 2 ((up (s_X1_copyFrom σ (k + 1) (j + 1)) k 1 ((s_X1_copyFrom σ (k + 1) (j + 1)) j 1)) j 2)) j 3)) k 4 ((up (up (up (s_X1_copyFrom σ (k + 1) (j + 1)) k 1 ((s_X1_copyFrom σ (k + 1) (j + 1)) j 1)) k 2 ((up (s_X1_copyFrom σ (k + 1) (j + 1)) k 1 ((s_X1_copyFrom σ (k + 1) (j + 1)) j 1)) j 2)) k 3 ((up (up (s_X1_copyFrom σ (k + 1) (j + 1)) k 1 ((s_X1_copyFrom σ (k + 1) (j + 1)) j 1)) k 2 ((up (s_X1_copyFrom σ (k + 1) (j + 1)) k 1 ((s_X1_copyFrom σ (k + 1) (j + 1)) j 1)) j 2)) j 3)) j 4)) j 5)) j 6)) k 7 ((up (up (up (up (up (up (s_X1_copyFrom σ (k + 1) (j + 1)) k 1 ((s_X1_copyFrom σ (k + 1) (j + 1)) j 1)) k 2 ((up (s_X1_copyFrom σ (k + 1) (j + 1)) k 1 ((s_X1_copyFrom σ (k + 1) (j + 1)) j 1)) j 2)) k 3 ((up (up (s_X1_copyFrom σ (k + 1) (j + 1)) k 1 ((s_X1_copyFrom σ (k + 1) (j + 1)) j 1)) k 2 ((up (s_X1_copyFrom σ (k + 1) (j + 1)) k 1 ((s_X1_copyFrom σ (k + 1) (j + 1)) j 1)) j 2)) j 3)) k 4 ((up (up (up (s_X1_copyFrom σ (k + 1) (j + 1)) k 1 ((s_X1_copyFrom σ (k + 1) (j + 1)) j 1)) k 2 ((up (s_X1_copyFrom σ (k + 1) (j + 1)) k 1 ((s_X1_copyFrom σ (k + 1) (j + 1)) j 1)) j 2)) k 3 ((up (up (s_X1_copyFrom σ (k + 1) (j + 1)) k 1 ((s_X1_copyFrom σ (k + 1) (j + 1)) j 1)) k 2 ((up (s_X1_copyFrom σ (k + 1) (j + 1)) k 1 ((s_X1_copyFrom σ (k + 1) (j + 1)) j 1)) j 2)) j 3)) j 4)) k 5 ((up (up (up (up (s_X1_copyFrom σ (k + 1) (j + 1)) k 1 ((s_X1_copyFrom σ (k + 1) (j + 1)) j 1)) k 2 ((up (s_X1_copyFrom σ (k + 1) (j + 1)) k 1 ((s_X1_copyFrom σ (k + 1) (j + 1)) j 1)) j 2)) k 3 ((up (up (s_X1_copyFrom σ (k + 1) (j + 1)) k 1 ((s_X1_copyFrom σ (k + 1) (j + 1)) j 1)) k 2 ((up (s_X1_copyFrom σ (k + 1) (j + 1)) k 1 ((s_X1_copyFrom σ (k + 1) (j + 1)) j 1)) j 2)) j 3)) k 4 ((up (up (up (s_X1_copyFrom σ (k + 1) (j + 1)) k 1 ((s_X1_copyFrom σ (k + 1) (j + 1)) j 1)) k 2 ((up (s_X1_copyFrom σ (k + 1) (j + 1)) k 1 ((s_X1_copyFrom σ (k + 1) (j + 1)) j 1)) j 2)) k 3 ((up (up (s_X1_copyFrom σ (k + 1) (j + 1)) k 1 ((s_X1_copyFrom σ (k + 1) (j + 1)) j 1)) k 2 ((up (s_X1_copyFrom σ (k + 1) (j + 1)) k 1 ((s_X1_copyFrom σ (k + 1) (j + 1)) j 1)) j 2)) j 3)) j 4)) j 5)) k 6 ((up (up (up (up (up (s_X1_copyFrom σ (k + 1) (j + 1)) k 1 ((s_X1_copyFrom σ (k + 1) (j + 1)) j 1)) k 2 ((up (s_X1_copyFrom σ (k + 1) (j + 1)) k 1 ((s_X1_copyFrom σ (k + 1) (j + 1)) j 1)) j 2)) k 3 ((up (up (s_X1_copyFrom σ (k + 1) (j + 1)) k 1 ((s_X1_copyFrom σ (k + 1) (j + 1)) j 1)) k 2 ((up (s_X1_copyFrom σ (k + 1) (j + 1)) k 1 ((s_X1_copyFrom σ (k + 1) (j + 1)) j 1)) j 2)) j 3)) k 4 ((up (up (up (s_X1_copyFrom σ (k + 1) (j + 1)) k 1 ((s_X1_copyFrom σ (k + 1) (j + 1)) j 1)) k 2 ((up (s_X1_copyFrom σ (k + 1) (j + 1)) k 1 ((s_X1_copyFrom σ (k + 1) (j + 1)) j 1)) j 2)) k 3 ((up (up (s_X1_copyFrom σ (k + 1) (j + 1)) k 1 ((s_X1_copyFrom σ (k + 1) (j + 1)) j 1)) k 2 ((up (s_X1_copyFrom σ (k + 1) (j + 1)) k 1 ((s_X1_copyFrom σ (k + 1) (j + 1)) j 1)) j 2)) j 3)) j 4)) k 5 ((up (up (up (up (s_X1_copyFrom σ (k + 1) (j + 1)) k 1 ((s_X1_copyFrom σ (k + 1) (j + 1)) j 1)) k 2 ((up (s_X1_copyFrom σ (k + 1) (j + 1)) k 1 ((s_X1_copyFrom σ (k + 1) (j + 1)) j 1)) j 2)) k 3 ((up (up (s_X1_copyFrom σ (k + 1) (j + 1)) k 1 ((s_X1_copyFrom σ (k + 1) (j + 1)) j 1)) k 2 ((up (s_X1_copyFrom σ (k + 1) (j + 1)) k 1 ((s_X1_copyFrom σ (k + 1) (j + 1)) j 1)) j 2)) j 3)) k 4 ((up (up (up (s_X1_copyFrom σ (k + 1) (j + 1)) k 1 ((s_X1_copyFrom σ (k + 1) (j + 1)) j 1)) k 2 ((up (s_X1_copyFrom σ (k + 1) (j + 1)) k 1 ((s_X1_copyFrom σ (k + 1) (j + 1)) j 1)) j 2)) k 3 ((up (up (s_X1_copyFrom σ (k + 1) (j + 1)) k 1 ((s_X1_copyFrom σ (k + 1) (j + 1)) j 1)) k 2 ((up (s_X1_copyFrom σ (k + 1) (j + 1)) k 1 ((s_X1_copyFrom σ (k + 1) (j + 1)) j 1)) j 2)) j 3)) j 4)) j 5)) j 6)) j 7)) j 8)) j 9)) k 10 ((up (up (up (up (up (up (up (up (up (s_X1_copyFrom σ (k + 1) (j + 1)) k 1 ((s_X1_copyFrom σ (k + 1) (j + 1)) j 1)) k 2 ((up (s_X1_copyFrom σ (k + 1) (j + 1)) k 1 ((s_X1_copyFrom σ (k + 1) (j + 1)) j 1)) j 2)) k 3 ((up (up (s_X1_copyFrom σ (k + 1) (j + 1)) k 1 ((s_X1_copyFrom σ (k + 1) (j + 1)) j 1)) k 2 ((up (s_X1_copyFrom σ (k + 1) (j + 1)) k 1 ((s_X1_copyFrom σ (k + 1) (j + 1)) j 1)) j 2)) j 3)) k 4 ((up (up (up (s_X1_copyFrom σ (k + 1) (j + 1)) k 1 ((s_X1_copyFrom σ (k + 1) (j + 1)) j 1)) k 2 ((up (s_X1_copyFrom σ (k + 1) (j + 1)) k 1 ((s_X1_copyFrom σ (k + 1) (j + 1)) j 1)) j 2)) k 3 ((up (up (s_X1_copyFrom σ (k + 1) (j + 1)) k 1 ((s_X1_copyFrom σ (k + 1) (j + 1)) j 1)) k 2 ((up (s_X1_copyFrom σ (k + 1) (j + 1)) k 1 ((s_X1_copyFrom σ (k + 1) (j + 1)) j 1)) j 2)) j 3)) j 4)) k 5 ((up (up (up (up (s_X1_copyFrom σ (k + 1) (j + 1)) k 1 ((s_X1_copyFrom σ (k + 1) (j + 1)) j 1)) k 2 ((up (s_X1_copyFrom σ (k + 1) (j + 1)) k 1 ((s_X1_copyFrom σ (k + 1) (j + 1)) j 1)) j 2)) k 3 ((up (up (s_X1_copyFrom σ (k + 1) (j + 1)) k 1 ((s_X1_copyFrom σ (k + 1) (j + 1)) j 1)) k 2 ((up (s_X1_copyFrom σ (k + 1) (j + 1)) k 1 ((s_X1_copyFrom σ (k + 1) (j + 1)) j 1)) j 2)) j 3)) k 4 ((up (up (up (s_X1_copyFrom σ (k + 1) (j + 1)) k 1 ((s_X1_copyFrom σ (k + 1) (j + 1)) j 1)) k 2 ((up (s_X1_copyFrom σ (k + 1) (j + 1)) k 1 ((s_X1_copyFrom σ (k + 1) (j + 1)) j 1)) j 2)) k 3 ((up (up (s_X1_copyFrom σ (k + 1) (j + 1)) k 1 ((s_X1_copyFrom σ (k + 1) (j + 1)) j 1)) k 2 ((up (s_X1_copyFrom σ (k + 1) (j + 1)) k 1 ((s_X1_copyFrom σ (k + 1) (j + 1)) j 1)) j 2)) j 3)) j 4)) j 5)) k 6 ((up (up (up (up (up (s_X1_copyFrom σ (k + 1) (j + 1)) k 1 ((s_X1_copyFrom σ (k + 1) (j + 1)) j 1)) k 2 ((up (s_X1_copyFrom σ (k + 1) (j + 1)) k 1 ((s_X1_copyFrom σ (k + 1) (j + 1)) j 1)) j 2)) k 3 ((up (up (s_X1_copyFrom σ (k + 1) (j + 1)) k 1 ((s_X1_copyFrom σ (k + 1) (j + 1)) j 1)) k 2 ((up (s_X1_copyFrom σ (k + 1) (j + 1)) k 1 ((s_X1_copyFrom σ (k + 1) (j + 1)) j 1)) j 2)) j 3)) k 4 ((up (up (up (s_X1_copyFrom σ (k + 1) (j + 1)) k 1 ((s_X1_copyFrom σ (k + 1) (j + 1)) j 1)) k 2 ((up (s_X1_copyFrom σ (k + 1) (j + 1)) k 1 ((s_X1_copyFrom σ (k + 1) (j + 1)) j 1)) j 2)) k 3 ((up (up (s_X1_copyFrom σ (k + 1) (j + 1)) k 1 ((s_X1_copyFrom σ (k + 1) (j + 1)) j 1)) k 2 ((up (s_X1_copyFrom σ (k + 1) (j + 1)) k 1 ((s_X1_copyFrom σ (k + 1) (j + 1)) j 1)) j 2)) j 3)) j 4)) k 5 ((up (up (up (up (s_X1_copyFrom σ (k + 1) (j + 1)) k 1 ((s_X1_copyFrom σ (k + 1) (j + 1)) j 1)) k 2 ((up (s_X1_copyFrom σ (k + 1) (j + 1)) k 1 ((s_X1_copyFrom σ (k + 1) (j + 1)) j 1)) j 2)) k 3 ((up (up (s_X1_copyFrom σ (k + 1) (j + 1)) k 1 ((s_X1_copyFrom σ (k + 1) (j + 1)) j 1)) k 2 ((up (s_X1_copyFrom σ (k + 1) (j + 1)) k 1 ((s_X1_copyFrom σ (k + 1) (j + 1)) j 1)) j 2)) j 3)) k 4 ((up (up (up (s_X1_copyFrom σ (k + 1) (j + 1)) k 1 ((s_X1_copyFrom σ (k + 1) (j + 1)) j 1)) k 2 ((up (s_X1_copyFrom σ (k + 1) (j + 1)) k 1 ((s_X1_copyFrom σ (k + 1) (j + 1)) j 1)) j 2)) k 3 ((up (up (s_X1_copyFrom σ (k + 1) (j + 1)) k 1 ((s_X1_copyFrom σ (k + 1) (j + 1)) j 1)) k 2 ((up (s_X1_copyFrom σ (k + 1) (j + 1)) k 1 ((s_X1_copyFrom σ (k + 1) (j + 1)) j 1)) j 2)) j 3)) j 4)) j 5)) j 6)) k 7 ((up (up (up (up (up (up (s_X1_copyFrom σ (k + 1) (j + 1)) k 1 ((s_X1_copyFrom σ (k + 1) (j + 1)) j 1)) k 2 ((up (s_X1_copyFrom σ (k + 1) (j + 1)) k 1 ((s_X1_copyFrom σ (k + 1) (j + 1)) j 1)) j 2)) k 3 ((up (up (s_X1_copyFrom σ (k + 1) (j + 1)) k 1 ((s_X1_copyFrom σ (k + 1) (j + 1)) j 1)) k 2 ((up (s_X1_copyFrom σ (k + 1) (j + 1)) k 1 ((s_X1_copyFrom σ (k + 1) (j + 1)) j 1)) j 2)) j 3)) k 4 ((up (up (up (s_X1_copyFrom σ (k + 1) (j + 1)) k 1 ((s_X1_copyFrom σ (k + 1) (j + 1)) j 1)) k 2 ((up (s_X1_copyFrom σ (k + 1) (j + 1)) k 1 ((s_X1_copyFrom σ (k + 1) (j + 1)) j 1)) j 2)) k 3 ((up (up (s_X1_copyFrom σ (k + 1) (j + 1)) k 1 ((s_X1_copyFrom σ (k + 1) (j + 1)) j 1)) k 2 ((up (s_X1_copyFrom σ (k + 1) (j + 1)) k 1 ((s_X1_copyFrom σ (k + 1) (j + 1)) j 1)) j 2)) j 3)) j 4)) k 5 ((up (up (up (up (s_X1_copyFrom σ (k + 1) (j + 1)) k 1 ((s_X1_copyFrom σ (k + 1) (j + 1)) j 1)) k 2 ((up (s_X1_copyFrom σ (k + 1) (j + 1)) k 1 ((s_X1_copyFrom σ (k + 1) (j + 1)) j 1)) j 2)) k 3 ((up (up (s_X1_copyFrom σ (k + 1) (j + 1)) k 1 ((s_X1_copyFrom σ (k + 1) (j + 1)) j 1)) k 2 ((up (s_X1_copyFrom σ (k + 1) (j + 1)) k 1 ((s_X1_copyFrom σ (k + 1) (j + 1)) j 1)) j 2)) j 3)) k 4 ((up (up (up (s_X1_copyFrom σ (k + 1) (j + 1)) k 1 ((s_X1_copyFrom σ (k + 1) (j + 1)) j 1)) k 2 ((up (s_X1_copyFrom σ (k + 1) (j + 1)) k 1 ((s_X1_copyFrom σ (k + 1) (j + 1)) j 1)) j 2)) k 3 ((up (up (s_X1_copyFrom σ (k + 1) (j + 1)) k 1 ((s_X1_copyFrom σ (k + 1) (j + 1)) j 1)) k 2 ((up (s_X1_copyFrom σ (k + 1) (j + 1)) k 1 ((s_X1_copyFrom σ (k + 1) (j + 1)) j 1)) j 2)) j 3)) j 4)) j 5)) k 6 ((up (up (up (up (up (s_X1_copyFrom σ (k + 1) (j + 1)) k 1 ((s_X1_copyFrom σ (k + 1) (j + 1)) j 1)) k 2 ((up (s_X1_copyFrom σ (k + 1) (j + 1)) k 1 ((s_X1_copyFrom σ (k + 1) (j + 1)) j 1)) j 2)) k 3 ((up (up (s_X1_copyFrom σ (k + 1) (j + 1)) k 1 ((s_X1_copyFrom σ (k + 1) (j + 1)) j 1)) k 2 ((up (s_X1_copyFrom σ (k + 1) (j + 1)) k 1 ((s_X1_copyFrom σ (k + 1) (j + 1)) j 1)) j 2)) j 3)) k 4 ((up (up (up (s_X1_copyFrom σ (k + 1) (j + 1)) k 1 ((s_X1_copyFrom σ (k + 1) (j + 1)) j 1)) k 2 ((up (s_X1_copyFrom σ (k + 1) (j + 1)) k 1 ((s_X1_copyFrom σ (k + 1) (j + 1)) j 1)) j 2)) k 3 ((up (up (s_X1_copyFrom σ (k + 1) (j + 1)) k 1 ((s_X1_copyFrom σ (k + 1) (j + 1)) j 1)) k 2 ((up (s_X1_copyFrom σ (k + 1) (j + 1)) k 1 ((s_X1_copyFrom σ (k + 1) (j + 1)) j 1)) j 2)) j 3)) j 4)) k 5 ((up (up (up (up (s_X1_copyFrom σ (k + 1) (j + 1)) k 1 ((s_X1_copyFrom σ (k + 1) (j + 1)) j 1)) k 2 ((up (s_X1_copyFrom σ (k + 1) (j + 1)) k 1 ((s_X1_copyFrom σ (k + 1) (j + 1)) j 1)) j 2)) k 3 ((up (up (s_X1_copyFrom σ (k + 1) (j + 1)) k 1 ((s_X1_copyFrom σ (k + 1) (j + 1)) j 1)) k 2 ((up (s_X1_copyFrom σ (k + 1) (j + 1)) k 1 ((s_X1_copyFrom σ (k + 1) (j + 1)) j 1)) j 2)) j 3)) k 4 ((up (up (up (s_X1_copyFrom σ (k + 1) (j + 1)) k 1 ((s_X1_copyFrom σ (k + 1) (j + 1)) j 1)) k 2 ((up (s_X1_copyFrom σ (k + 1) (j + 1)) k 1 ((s_X1_copyFrom σ (k + 1) (j + 1)) j 1)) j 2)) k 3 ((up (up (s_X1_copyFrom σ (k + 1) (j + 1)) k 1 ((s_X1_copyFrom σ (k + 1) (j + 1)) j 1)) k 2 ((up (s_X1_copyFrom σ (k + 1) (j + 1)) k 1 ((s_X1_copyFrom σ (k + 1) (j + 1)) j 1)) j 2)) j 3)) j 4)) j 5)) j 6)) j 7)) k 8 ((up (up (up (up (up (up (up (s_X1_copyFrom σ (k + 1) (j + 1)) k 1 ((s_X1_copyFrom σ (k + 1) (j + 1)) j 1)) k 2 ((up (s_X1_copyFrom σ (k + 1) (j + 1)) k 1 ((s_X1_copyFrom σ (k + 1) (j + 1)) j 1)) j 2)) k 3 ((up (up (s_X1_copyFrom σ (k + 1) (j + 1)) k 1 ((s_X1_copyFrom σ (k + 1) (j + 1)) j 1)) k 2 ((up (s_X1_copyFrom σ (k + 1) (j + 1)) k 1 ((s_X1_copyFrom σ (k + 1) (j + 1)) j 1)) j 2)) j 3)) k 4 ((up (up (up (s_X1_copyFrom σ (k + 1) (j + 1)) k 1 ((s_X1_copyFrom σ (k + 1) (j + 1)) j 1)) k 2 ((up (s_X1_copyFrom σ (k + 1) (j + 1)) k 1 ((s_X1_copyFrom σ (k + 1) (j + 1)) j 1)) j 2)) k 3 ((up (up (s_X1_copyFrom σ (k + 1) (j + 1)) k 1 ((s_X1_copyFrom σ (k + 1) (j + 1)) j 1)) k 2 ((up (s_X1_copyFrom σ (k + 1) (j + 1)) k 1 ((s_X1_copyFrom σ (k + 1) (j + 1)) j 1)) j 2)) j 3)) j 4)) k 5 ((up (up (up (up (s_X1_copyFrom σ (k + 1) (j + 1)) k 1 ((s_X1_copyFrom σ (k + 1) (j + 1)) j 1)) k 2 ((up (s_X1_copyFrom σ (k + 1) (j + 1)) k 1 ((s_X1_copyFrom σ (k + 1) (j + 1)) j 1)) j 2)) k 3 ((up (up (s_X1_copyFrom σ (k + 1) (j + 1)) k 1 ((s_X1_copyFrom σ (k + 1) (j + 1)) j 1)) k 2 ((up (s_X1_copyFrom σ (k + 1) (j + 1)) k 1 ((s_X1_copyFrom σ (k + 1) (j + 1)) j 1)) j 2)) j 3)) k 4 ((up (up (up (s_X1_copyFrom σ (k + 1) (j + 1)) k 1 ((s_X1_copyFrom σ (k + 1) (j + 1)) j 1)) k 2 ((up (s_X1_copyFrom σ (k + 1) (j + 1)) k 1 ((s_X1_copyFrom σ (k + 1) (j + 1)) j 1)) j 2)) k 3 ((up (up (s_X1_copyFrom σ (k + 1) (j + 1)) k 1 ((s_X1_copyFrom σ (k + 1) (j + 1)) j 1)) k 2 ((up (s_X1_copyFrom σ (k + 1) (j + 1)) k 1 ((s_X1_copyFrom σ (k + 1) (j + 1)) j 1)) j 2)) j 3)) j 4)) j 5)) k 6 ((up (up (up (up (up (s_X1_copyFrom σ (k + 1) (j + 1)) k 1 ((s_X1_copyFrom σ (k + 1) (j + 1)) j 1)) k 2 ((up (s_X1_copyFrom σ (k + 1) (j + 1)) k 1 ((s_X1_copyFrom σ (k + 1) (j + 1)) j 1)) j 2)) k 3 ((up (up (s_X1_copyFrom σ (k + 1) (j + 1)) k 1 ((s_X1_copyFrom σ (k + 1) (j + 1)) j 1)) k 2 ((up (s_X1_copyFrom σ (k + 1) (j + 1)) k 1 ((s_X1_copyFrom σ (k + 1) (j + 1)) j 1)) j 2)) j 3)) k 4 ((up (up (up (s_X1_copyFrom σ (k + 1) (j + 1)) k 1 ((s_X1_copyFrom σ (k + 1) (j + 1)) j 1)) k 2 ((up (s_X1_copyFrom σ (k + 1) (j + 1)) k 1 ((s_X1_copyFrom σ (k + 1) (j + 1)) j 1)) j 2)) k 3 ((up (up (s_X1_copyFrom σ (k + 1) (j + 1)) k 1 ((s_X1_copyFrom σ (k + 1) (j + 1)) j 1)) k 2 ((up (s_X1_copyFrom σ (k + 1) (j + 1)) k 1 ((s_X1_copyFrom σ (k + 1) (j + 1)) j 1)) j 2)) j 3)) j 4)) k 5 ((up (up (up (up (s_X1_copyFrom σ (k + 1) (j + 1)) k 1 ((s_X1_copyFrom σ (k + 1) (j + 1)) j 1)) k 2 ((up (s_X1_copyFrom σ (k + 1) (j + 1)) k 1 ((s_X1_copyFrom σ (k + 1) (j + 1)) j 1)) j 2)) k 3 ((up (up (s_X1_copyFrom σ (k + 1) (j + 1)) k 1 ((s_X1_copyFrom σ (k + 1) (j + 1)) j 1)) k 2 ((up (s_X1_copyFrom σ (k + 1) (j + 1)) k 1 ((s_X1_copyFrom σ (k + 1) (j + 1)) j 1)) j 2)) j 3)) k 4 ((up (up (up (s_X1_copyFrom σ (k + 1) (j + 1)) k 1 ((s_X1_copyFrom σ (k + 1) (j + 1)) j 1)) k 2 ((up (s_X1_copyFrom σ (k + 1) (j + 1)) k 1 ((s_X1_copyFrom σ (k + 1) (j + 1)) j 1)) j 2)) k 3 ((up (up (s_X1_copyFrom σ (k + 1) (j + 1)) k 1 ((s_X1_copyFrom σ (k + 1) (j + 1)) j 1)) k 2 ((up (s_X1_copyFrom σ (k + 1) (j + 1)) k 1 ((s_X1_copyFrom σ (k + 1) (j + 1)) j 1)) j 2)) j 3)) j 4)) j 5)) j 6)) k 7 ((up (up (up (up (up (up (s_X1_copyFrom σ (k + 1) (j + 1)) k 1 ((s_X1_copyFrom σ (k + 1) (j + 1)) j 1)) k 2 ((up (s_X1_copyFrom σ (k + 1) (j + 1)) k 1 ((s_X1_copyFrom σ (k + 1) (j + 1)) j 1)) j 2)) k 3 ((up (up (s_X1_copyFrom σ (k + 1) (j + 1)) k 1 ((s_X1_copyFrom σ (k + 1) (j + 1)) j 1)) k 2 ((up (s_X1_copyFrom σ (k + 1) (j + 1)) k 1 ((s_X1_copyFrom σ (k + 1) (j + 1)) j 1)) j 2)) j 3)) k 4 ((up (up (up (s_X1_copyFrom σ (k + 1) (j + 1)) k 1 ((s_X1_copyFrom σ (k + 1) (j + 1)) j 1)) k 2 ((up (s_X1_copyFrom σ (k + 1) (j + 1)) k 1 ((s_X1_copyFrom σ (k + 1) (j + 1)) j 1)) j 2)) k 3 ((up (up (s_X1_copyFrom σ (k + 1) (j + 1)) k 1 ((s_X1_copyFrom σ (k + 1) (j + 1)) j 1)) k 2 ((up (s_X1_copyFrom σ (k + 1) (j + 1)) k 1 ((s_X1_copyFrom σ (k + 1) (j + 1)) j 1)) j 2)) j 3)) j 4)) k 5 ((up (up (up (up (s_X1_copyFrom σ (k + 1) (j + 1)) k 1 ((s_X1_copyFrom σ (k + 1) (j + 1)) j 1)) k 2 ((up (s_X1_copyFrom σ (k + 1) (j + 1)) k 1 ((s_X1_copyFrom σ (k + 1) (j + 1)) j 1)) j 2)) k 3 ((up (up (s_X1_copyFrom σ (k + 1) (j + 1)) k 1 ((s_X1_copyFrom σ (k + 1) (j + 1)) j 1)) k 2 ((up (s_X1_copyFrom σ (k + 1) (j + 1)) k 1 ((s_X1_copyFrom σ (k + 1) (j + 1)) j 1)) j 2)) j 3)) k 4 ((up (up (up (s_X1_copyFrom σ (k + 1) (j + 1)) k 1 ((s_X1_copyFrom σ (k + 1) (j + 1)) j 1)) k 2 ((up (s_X1_copyFrom σ (k + 1) (j + 1)) k 1 ((s_X1_copyFrom σ (k + 1) (j + 1)) j 1)) j 2)) k 3 ((up (up (s_X1_copyFrom σ (k + 1) (j + 1)) k 1 ((s_X1_copyFrom σ (k + 1) (j + 1)) j 1)) k 2 ((up (s_X1_copyFrom σ (k + 1) (j + 1)) k 1 ((s_X1_copyFrom σ (k + 1) (j + 1)) j 1)) j 2)) j 3)) j 4)) j 5)) k 6 ((up (up (up (up (up (s_X1_copyFrom σ (k + 1) (j + 1)) k 1 ((s_X1_copyFrom σ (k + 1) (j + 1)) j 1)) k 2 ((up (s_X1_copyFrom σ (k + 1) (j + 1)) k 1 ((s_X1_copyFrom σ (k + 1) (j + 1)) j 1)) j 2)) k 3 ((up (up (s_X1_copyFrom σ (k + 1) (j + 1)) k 1 ((s_X1_copyFrom σ (k + 1) (j + 1)) j 1)) k 2 ((up (s_X1_copyFrom σ (k + 1) (j + 1)) k 1 ((s_X1_copyFrom σ (k + 1) (j + 1)) j 1)) j 2)) j 3)) k 4 ((up (up (up (s_X1_copyFrom σ (k + 1) (j + 1)) k 1 ((s_X1_copyFrom σ (k + 1) (j + 1)) j 1)) k 2 ((up (s_X1_copyFrom σ (k + 1) (j + 1)) k 1 ((s_X1_copyFrom σ (k + 1) (j + 1)) j 1)) j 2)) k 3 ((up (up (s_X1_copyFrom σ (k + 1) (j + 1)) k 1 ((s_X1_copyFrom σ (k + 1) (j + 1)) j 1)) k 2 ((up (s_X1_copyFrom σ (k + 1) (j + 1)) k 1 ((s_X1_copyFrom σ (k + 1) (j + 1)) j 1)) j 2)) j 3)) j 4)) k 5 ((up (up (up (up (s_X1_copyFrom σ (k + 1) (j + 1)) k 1 ((s_X1_copyFrom σ (k + 1) (j + 1)) j 1)) k 2 ((up (s_X1_copyFrom σ (k + 1) (j + 1)) k 1 ((s_X1_copyFrom σ (k + 1) (j + 1)) j 1)) j 2)) k 3 ((up (up (s_X1_copyFrom σ (k + 1) (j + 1)) k 1 ((s_X1_copyFrom σ (k + 1) (j + 1)) j 1)) k 2 ((up (s_X1_copyFrom σ (k + 1) (j + 1)) k 1 ((s_X1_copyFrom σ (k + 1) (j + 1)) j 1)) j 2)) j 3)) k 4 ((up (up (up (s_X1_copyFrom σ (k + 1) (j + 1)) k 1 ((s_X1_copyFrom σ (k + 1) (j + 1)) j 1)) k 2 ((up (s_X1_copyFrom σ (k + 1) (j + 1)) k 1 ((s_X1_copyFrom σ (k + 1) (j + 1)) j 1)) j 2)) k 3 ((up (up (s_X1_copyFrom σ (k + 1) (j + 1)) k 1 ((s_X1_copyFrom σ (k + 1) (j + 1)) j 1)) k 2 ((up (s_X1_copyFrom σ (k + 1) (j + 1)) k 1 ((s_X1_copyFrom σ (k + 1) (j + 1)) j 1)) j 2)) j 3)) j 4)) j 5)) j 6)) j 7)) j 8)) k 9 ((up (up (up (up (up (up (up (up (s_X1_copyFrom σ (k + 1) (j + 1)) k 1 ((s_X1_copyFrom σ (k + 1) (j + 1)) j 1)) k 2 ((up (s_X1_copyFrom σ (k + 1) (j + 1)) k 1 ((s_X1_copyFrom σ (k + 1) (j + 1)) j 1)) j 2)) k 3 ((up (up (s_X1_copyFrom σ (k + 1) (j + 1)) k 1 ((s_X1_copyFrom σ (k + 1) (j + 1)) j 1)) k 2 ((up (s_X1_copyFrom σ (k + 1) (j + 1)) k 1 ((s_X1_copyFrom σ (k + 1) (j + 1)) j 1)) j 2)) j 3)) k 4 ((up (up (up (s_X1_copyFrom σ (k + 1) (j + 1)) k 1 ((s_X1_copyFrom σ (k + 1) (j + 1)) j 1)) k 2 ((up (s_X1_copyFrom σ (k + 1) (j + 1)) k 1 ((s_X1_copyFrom σ (k + 1) (j + 1)) j 1)) j 2)) k 3 ((up (up (s_X1_copyFrom σ (k + 1) (j + 1)) k 1 ((s_X1_copyFrom σ (k + 1) (j + 1)) j 1)) k 2 ((up (s_X1_copyFrom σ (k + 1) (j + 1)) k 1 ((s_X1_copyFrom σ (k + 1) (j + 1)) j 1)) j 2)) j 3)) j 4)) k 5 ((up (up (up (up (s_X1_copyFrom σ (k + 1) (j + 1)) k 1 ((s_X1_copyFrom σ (k + 1) (j + 1)) j 1)) k 2 ((up (s_X1_copyFrom σ (k + 1) (j + 1)) k 1 ((s_X1_copyFrom σ (k + 1) (j + 1)) j 1)) j 2)) k 3 ((up (up (s_X1_copyFrom σ (k + 1) (j + 1)) k 1 ((s_X1_copyFrom σ (k + 1) (j + 1)) j 1)) k 2 ((up (s_X1_copyFrom σ (k + 1) (j + 1)) k 1 ((s_X1_copyFrom σ (k + 1) (j + 1)) j 1)) j 2)) j 3)) k 4 ((up (up (up (s_X1_copyFrom σ (k + 1) (j + 1)) k 1 ((s_X1_copyFrom σ (k + 1) (j + 1)) j 1)) k 2 ((up (s_X1_copyFrom σ (k + 1) (j + 1)) k 1 ((s_X1_copyFrom σ (k + 1) (j + 1)) j 1)) j 2)) k 3 ((up (up (s_X1_copyFrom σ (k + 1) (j + 1)) k 1 ((s_X1_copyFrom σ (k + 1) (j + 1)) j 1)) k 2 ((up (s_X1_copyFrom σ (k + 1) (j + 1)) k 1 ((s_X1_copyFrom σ (k + 1) (j + 1)) j 1)) j 2)) j 3)) j 4)) j 5)) k 6 ((up (up (up (up (up (s_X1_copyFrom σ (k + 1) (j + 1)) k 1 ((s_X1_copyFrom σ (k + 1) (j + 1)) j 1)) k 2 ((up (s_X1_copyFrom σ (k + 1) (j + 1)) k 1 ((s_X1_copyFrom σ (k + 1) (j + 1)) j 1)) j 2)) k 3 ((up (up (s_X1_copyFrom σ (k + 1) (j + 1)) k 1 ((s_X1_copyFrom σ (k + 1) (j + 1)) j 1)) k 2 ((up (s_X1_copyFrom σ (k + 1) (j + 1)) k 1 ((s_X1_copyFrom σ (k + 1) (j + 1)) j 1)) j 2)) j 3)) k 4 ((up (up (up (s_X1_copyFrom σ (k + 1) (j + 1)) k 1 ((s_X1_copyFrom σ (k + 1) (j + 1)) j 1)) k 2 ((up (s_X1_copyFrom σ (k + 1) (j + 1)) k 1 ((s_X1_copyFrom σ (k + 1) (j + 1)) j 1)) j 2)) k 3 ((up (up (s_X1_copyFrom σ (k + 1) (j + 1)) k 1 ((s_X1_copyFrom σ (k + 1) (j + 1)) j 1)) k 2 ((up (s_X1_copyFrom σ (k + 1) (j + 1)) k 1 ((s_X1_copyFrom σ (k + 1) (j + 1)) j 1)) j 2)) j 3)) j 4)) k 5 ((up (up (up (up (s_X1_copyFrom σ (k + 1) (j + 1)) k 1 ((s_X1_copyFrom σ (k + 1) (j + 1)) j 1)) k 2 ((up (s_X1_copyFrom σ (k + 1) (j + 1)) k 1 ((s_X1_copyFrom σ (k + 1) (j + 1)) j 1)) j 2)) k 3 ((up (up (s_X1_copyFrom σ (k + 1) (j + 1)) k 1 ((s_X1_copyFrom σ (k + 1) (j + 1)) j 1)) k 2 ((up (s_X1_copyFrom σ (k + 1) (j + 1)) k 1 ((s_X1_copyFrom σ (k + 1) (j + 1)) j 1)) j 2)) j 3)) k 4 ((up (up (up (s_X1_copyFrom σ (k + 1) (j + 1)) k 1 ((s_X1_copyFrom σ (k + 1) (j + 1)) j 1)) k 2 ((up (s_X1_copyFrom σ (k + 1) (j + 1)) k 1 ((s_X1_copyFrom σ (k + 1) (j + 1)) j 1)) j 2)) k 3 ((up (up (s_X1_copyFrom σ (k + 1) (j + 1)) k 1 ((s_X1_copyFrom σ (k + 1) (j + 1)) j 1)) k 2 ((up (s_X1_copyFrom σ (k + 1) (j + 1)) k 1 ((s_X1_copyFrom σ (k + 1) (j + 1)) j 1)) j 2)) j 3)) j 4)) j 5)) j 6)) k 7 ((up (up (up (up (up (up (s_X1_copyFrom σ (k + 1) (j + 1)) k 1 ((s_X1_copyFrom σ (k + 1) (j + 1)) j 1)) k 2 ((up (s_X1_copyFrom σ (k + 1) (j + 1)) k 1 ((s_X1_copyFrom σ (k + 1) (j + 1)) j 1)) j 2)) k 3 ((up (up (s_X1_copyFrom σ (k + 1) (j + 1)) k 1 ((s_X1_copyFrom σ (k + 1) (j + 1)) j 1)) k 2 ((up (s_X1_copyFrom σ (k + 1) (j + 1)) k 1 ((s_X1_copyFrom σ (k + 1) (j + 1)) j 1)) j 2)) j 3)) k 4 ((up (up (up (s_X1_copyFrom σ (k + 1) (j + 1)) k 1 ((s_X1_copyFrom σ (k + 1) (j + 1)) j 1)) k 2 ((up (s_X1_copyFrom σ (k + 1) (j + 1)) k 1 ((s_X1_copyFrom σ (k + 1) (j + 1)) j 1)) j 2)) k 3 ((up (up (s_X1_copyFrom σ (k + 1) (j + 1)) k 1 ((s_X1_copyFrom σ (k + 1) (j + 1)) j 1)) k 2 ((up (s_X1_copyFrom σ (k + 1) (j + 1)) k 1 ((s_X1_copyFrom σ (k + 1) (j + 1)) j 1)) j 2)) j 3)) j 4)) k 5 ((up (up (up (up (s_X1_copyFrom σ (k + 1) (j + 1)) k 1 ((s_X1_copyFrom σ (k + 1) (j + 1)) j 1)) k 2 ((up (s_X1_copyFrom σ (k + 1) (j + 1)) k 1 ((s_X1_copyFrom σ (k + 1) (j + 1)) j 1)) j 2)) k 3 ((up (up (s_X1_copyFrom σ (k + 1) (j + 1)) k 1 ((s_X1_copyFrom σ (k + 1) (j + 1)) j 1)) k 2 ((up (s_X1_copyFrom σ (k + 1) (j + 1)) k 1 ((s_X1_copyFrom σ (k + 1) (j + 1)) j 1)) j 2)) j 3)) k 4 ((up (up (up (s_X1_copyFrom σ (k + 1) (j + 1)) k 1 ((s_X1_copyFrom σ (k + 1) (j + 1)) j 1)) k 2 ((up (s_X1_copyFrom σ (k + 1) (j + 1)) k 1 ((s_X1_copyFrom σ (k + 1) (j + 1)) j 1)) j 2)) k 3 ((up (up (s_X1_copyFrom σ (k + 1) (j + 1)) k 1 ((s_X1_copyFrom σ (k + 1) (j + 1)) j 1)) k 2 ((up (s_X1_copyFrom σ (k + 1) (j + 1)) k 1 ((s_X1_copyFrom σ (k + 1) (j + 1)) j 1)) j 2)) j 3)) j 4)) j 5)) k 6 ((up (up (up (up (up (s_X1_copyFrom σ (k + 1) (j + 1)) k 1 ((s_X1_copyFrom σ (k + 1) (j + 1)) j 1)) k 2 ((up (s_X1_copyFrom σ (k + 1) (j + 1)) k 1 ((s_X1_copyFrom σ (k + 1) (j + 1)) j 1)) j 2)) k 3 ((up (up (s_X1_copyFrom σ (k + 1) (j + 1)) k 1 ((s_X1_copyFrom σ (k + 1) (j + 1)) j 1)) k 2 ((up (s_X1_copyFrom σ (k + 1) (j + 1)) k 1 ((s_X1_copyFrom σ (k + 1) (j + 1)) j 1)) j 2)) j 3)) k 4 ((up (up (up (s_X1_copyFrom σ (k + 1) (j + 1)) k 1 ((s_X1_copyFrom σ (k + 1) (j + 1)) j 1)) k 2 ((up (s_X1_copyFrom σ (k + 1) (j + 1)) k 1 ((s_X1_copyFrom σ (k + 1) (j + 1)) j 1)) j 2)) k 3 ((up (up (s_X1_copyFrom σ (k + 1) (j + 1)) k 1 ((s_X1_copyFrom σ (k + 1) (j + 1)) j 1)) k 2 ((up (s_X1_copyFrom σ (k + 1) (j + 1)) k 1 ((s_X1_copyFrom σ (k + 1) (j + 1)) j 1)) j 2)) j 3)) j 4)) k 5 ((up (up (up (up (s_X1_copyFrom σ (k + 1) (j + 1)) k 1 ((s_X1_copyFrom σ (k + 1) (j + 1)) j 1)) k 2 ((up (s_X1_copyFrom σ (k + 1) (j + 1)) k 1 ((s_X1_copyFrom σ (k + 1) (j + 1)) j 1)) j 2)) k 3 ((up (up (s_X1_copyFrom σ (k + 1) (j + 1)) k 1 ((s_X1_copyFrom σ (k + 1) (j + 1)) j 1)) k 2 ((up (s_X1_copyFrom σ (k + 1) (j + 1)) k 1 ((s_X1_copyFrom σ (k + 1) (j + 1)) j 1)) j 2)) j 3)) k 4 ((up (up (up (s_X1_copyFrom σ (k + 1) (j + 1)) k 1 ((s_X1_copyFrom σ (k + 1) (j + 1)) j 1)) k 2 ((up (s_X1_copyFrom σ (k + 1) (j + 1)) k 1 ((s_X1_copyFrom σ (k + 1) (j + 1)) j 1)) j 2)) k 3 ((up (up (s_X1_copyFrom σ (k + 1) (j + 1)) k 1 ((s_X1_copyFrom σ (k + 1) (j + 1)) j 1)) k 2 ((up (s_X1_copyFrom σ (k + 1) (j + 1)) k 1 ((s_X1_copyFrom σ (k + 1) (j + 1)) j 1)) j 2)) j 3)) j 4)) j 5)) j 6)) j 7)) k 8 ((up (up (up (up (up (up (up (s_X1_copyFrom σ (k + 1) (j + 1)) k 1 ((s_X1_copyFrom σ (k + 1) (j + 1)) j 1)) k 2 ((up (s_X1_copyFrom σ (k + 1) (j + 1)) k 1 ((s_X1_copyFrom σ (k + 1) (j + 1)) j 1)) j 2)) k 3 ((up (up (s_X1_copyFrom σ (k + 1) (j + 1)) k 1 ((s_X1_copyFrom σ (k + 1) (j + 1)) j 1)) k 2 ((up (s_X1_copyFrom σ (k + 1) (j + 1)) k 1 ((s_X1_copyFrom σ (k + 1) (j + 1)) j 1)) j 2)) j 3)) k 4 ((up (up (up (s_X1_copyFrom σ (k + 1) (j + 1)) k 1 ((s_X1_copyFrom σ (k + 1) (j + 1)) j 1)) k 2 ((up (s_X1_copyFrom σ (k + 1) (j + 1)) k 1 ((s_X1_copyFrom σ (k + 1) (j + 1)) j 1)) j 2)) k 3 ((up (up (s_X1_copyFrom σ (k + 1) (j + 1)) k 1 ((s_X1_copyFrom σ (k + 1) (j + 1)) j 1)) k 2 ((up (s_X1_copyFrom σ (k + 1) (j + 1)) k 1 ((s_X1_copyFrom σ (k + 1) (j + 1)) j 1)) j 2)) j 3)) j 4)) k 5 ((up (up (up (up (s_X1_copyFrom σ (k + 1) (j + 1)) k 1 ((s_X1_copyFrom σ (k + 1) (j + 1)) j 1)) k 2 ((up (s_X1_copyFrom σ (k + 1) (j + 1)) k 1 ((s_X1_copyFrom σ (k + 1) (j + 1)) j 1)) j 2)) k 3 ((up (up (s_X1_copyFrom σ (k + 1) (j + 1)) k 1 ((s_X1_copyFrom σ (k + 1) (j + 1)) j 1)) k 2 ((up (s_X1_copyFrom σ (k + 1) (j + 1)) k 1 ((s_X1_copyFrom σ (k + 1) (j + 1)) j 1)) j 2)) j 3)) k 4 ((up (up (up (s_X1_copyFrom σ (k + 1) (j + 1)) k 1 ((s_X1_copyFrom σ (k + 1) (j + 1)) j 1)) k 2 ((up (s_X1_copyFrom σ (k + 1) (j + 1)) k 1 ((s_X1_copyFrom σ (k + 1) (j + 1)) j 1)) j 2)) k 3 ((up (up (s_X1_copyFrom σ (k + 1) (j + 1)) k 1 ((s_X1_copyFrom σ (k + 1) (j + 1)) j 1)) k 2 ((up (s_X1_copyFrom σ (k + 1) (j + 1)) k 1 ((s_X1_copyFrom σ (k + 1) (j + 1)) j 1)) j 2)) j 3)) j 4)) j 5)) k 6 ((up (up (up (up (up (s_X1_copyFrom σ (k + 1) (j + 1)) k 1 ((s_X1_copyFrom σ (k + 1) (j + 1)) j 1)) k 2 ((up (s_X1_copyFrom σ (k + 1) (j + 1)) k 1 ((s_X1_copyFrom σ (k + 1) (j + 1)) j 1)) j 2)) k 3 ((up (up (s_X1_copyFrom σ (k + 1) (j + 1)) k 1 ((s_X1_copyFrom σ (k + 1) (j + 1)) j 1)) k 2 ((up (s_X1_copyFrom σ (k + 1) (j + 1)) k 1 ((s_X1_copyFrom σ (k + 1) (j + 1)) j 1)) j 2)) j 3)) k 4 ((up (up (up (s_X1_copyFrom σ (k + 1) (j + 1)) k 1 ((s_X1_copyFrom σ (k + 1) (j + 1)) j 1)) k 2 ((up (s_X1_copyFrom σ (k + 1) (j + 1)) k 1 ((s_X1_copyFrom σ (k + 1) (j + 1)) j 1)) j 2)) k 3 ((up (up (s_X1_copyFrom σ (k + 1) (j + 1)) k 1 ((s_X1_copyFrom σ (k + 1) (j + 1)) j 1)) k 2 ((up (s_X1_copyFrom σ (k + 1) (j + 1)) k 1 ((s_X1_copyFrom σ (k + 1) (j + 1)) j 1)) j 2)) j 3)) j 4)) k 5 ((up (up (up (up (s_X1_copyFrom σ (k + 1) (j + 1)) k 1 ((s_X1_copyFrom σ (k + 1) (j + 1)) j 1)) k 2 ((up (s_X1_copyFrom σ (k + 1) (j + 1)) k 1 ((s_X1_copyFrom σ (k + 1) (j + 1)) j 1)) j 2)) k 3 ((up (up (s_X1_copyFrom σ (k + 1) (j + 1)) k 1 ((s_X1_copyFrom σ (k + 1) (j + 1)) j 1)) k 2 ((up (s_X1_copyFrom σ (k + 1) (j + 1)) k 1 ((s_X1_copyFrom σ (k + 1) (j + 1)) j 1)) j 2)) j 3)) k 4 ((up (up (up (s_X1_copyFrom σ (k + 1) (j + 1)) k 1 ((s_X1_copyFrom σ (k + 1) (j + 1)) j 1)) k 2 ((up (s_X1_copyFrom σ (k + 1) (j + 1)) k 1 ((s_X1_copyFrom σ (k + 1) (j + 1)) j 1)) j 2)) k 3 ((up (up (s_X1_copyFrom σ (k + 1) (j + 1)) k 1 ((s_X1_copyFrom σ (k + 1) (j + 1)) j 1)) k 2 ((up (s_X1_copyFrom σ (k + 1) (j + 1)) k 1 ((s_X1_copyFrom σ (k + 1) (j + 1)) j 1)) j 2)) j 3)) j 4)) j 5)) j 6)) k 7 ((up (up (up (up (up (up (s_X1_copyFrom σ (k + 1) (j + 1)) k 1 ((s_X1_copyFrom σ (k + 1) (j + 1)) j 1)) k 2 ((up (s_X1_copyFrom σ (k + 1) (j + 1)) k 1 ((s_X1_copyFrom σ (k + 1) (j + 1)) j 1)) j 2)) k 3 ((up (up (s_X1_copyFrom σ (k + 1) (j + 1)) k 1 ((s_X1_copyFrom σ (k + 1) (j + 1)) j 1)) k 2 ((up (s_X1_copyFrom σ (k + 1) (j + 1)) k 1 ((s_X1_copyFrom σ (k + 1) (j + 1)) j 1)) j 2)) j 3)) k 4 ((up (up (up (s_X1_copyFrom σ (k + 1) (j + 1)) k 1 ((s_X1_copyFrom σ (k + 1) (j + 1)) j 1)) k 2 ((up (s_X1_copyFrom σ (k + 1) (j + 1)) k 1 ((s_X1_copyFrom σ (k + 1) (j + 1)) j 1)) j 2)) k 3 ((up (up (s_X1_copyFrom σ (k + 1) (j + 1)) k 1 ((s_X1_copyFrom σ (k + 1) (j + 1)) j 1)) k 2 ((up (s_X1_copyFrom σ (k + 1) (j + 1)) k 1 ((s_X1_copyFrom σ (k + 1) (j + 1)) j 1)) j 2)) j 3)) j 4)) k 5 ((up (up (up (up (s_X1_copyFrom σ (k + 1) (j + 1)) k 1 ((s_X1_copyFrom σ (k + 1) (j + 1)) j 1)) k 2 ((up (s_X1_copyFrom σ (k + 1) (j + 1)) k 1 ((s_X1_copyFrom σ (k + 1) (j + 1)) j 1)) j 2)) k 3 ((up (up (s_X1_copyFrom σ (k + 1) (j + 1)) k 1 ((s_X1_copyFrom σ (k + 1) (j + 1)) j 1)) k 2 ((up (s_X1_copyFrom σ (k + 1) (j + 1)) k 1 ((s_X1_copyFrom σ (k + 1) (j + 1)) j 1)) j 2)) j 3)) k 4 ((up (up (up (s_X1_copyFrom σ (k + 1) (j + 1)) k 1 ((s_X1_copyFrom σ (k + 1) (j + 1)) j 1)) k 2 ((up (s_X1_copyFrom σ (k + 1) (j + 1)) k 1 ((s_X1_copyFrom σ (k + 1) (j + 1)) j 1)) j 2)) k 3 ((up (up (s_X1_copyFrom σ (k + 1) (j + 1)) k 1 ((s_X1_copyFrom σ (k + 1) (j + 1)) j 1)) k 2 ((up (s_X1_copyFrom σ (k + 1) (j + 1)) k 1 ((s_X1_copyFrom σ (k + 1) (j + 1)) j 1)) j 2)) j 3)) j 4)) j 5)) k 6 ((up (up (up (up (up (s_X1_copyFrom σ (k + 1) (j + 1)) k 1 ((s_X1_copyFrom σ (k + 1) (j + 1)) j 1)) k 2 ((up (s_X1_copyFrom σ (k + 1) (j + 1)) k 1 ((s_X1_copyFrom σ (k + 1) (j + 1)) j 1)) j 2)) k 3 ((up (up (s_X1_copyFrom σ (k + 1) (j + 1)) k 1 ((s_X1_copyFrom σ (k + 1) (j + 1)) j 1)) k 2 ((up (s_X1_copyFrom σ (k + 1) (j + 1)) k 1 ((s_X1_copyFrom σ (k + 1) (j + 1)) j 1)) j 2)) j 3)) k 4 ((up (up (up (s_X1_copyFrom σ (k + 1) (j + 1)) k 1 ((s_X1_copyFrom σ (k + 1) (j + 1)) j 1)) k 2 ((up (s_X1_copyFrom σ (k + 1) (j + 1)) k 1 ((s_X1_copyFrom σ (k + 1) (j + 1)) j 1)) j 2)) k 3 ((up (up (s_X1_copyFrom σ (k + 1) (j + 1)) k 1 ((s_X1_copyFrom σ (k + 1) (j + 1)) j 1)) k 2 ((up (s_X1_copyFrom σ (k + 1) (j + 1)) k 1 ((s_X1_copyFrom σ (k + 1) (j + 1)) j 1)) j 2)) j 3)) j 4)) k 5 ((up (up (up (up (s_X1_copyFrom σ (k + 1) (j + 1)) k 1 ((s_X1_copyFrom σ (k + 1) (j + 1)) j 1)) k 2 ((up (s_X1_copyFrom σ (k + 1) (j + 1)) k 1 ((s_X1_copyFrom σ (k + 1) (j + 1)) j 1)) j 2)) k 3 ((up (up (s_X1_copyFrom σ (k + 1) (j + 1)) k 1 ((s_X1_copyFrom σ (k + 1) (j + 1)) j 1)) k 2 ((up (s_X1_copyFrom σ (k + 1) (j + 1)) k 1 ((s_X1_copyFrom σ (k + 1) (j + 1)) j 1)) j 2)) j 3)) k 4 ((up (up (up (s_X1_copyFrom σ (k + 1) (j + 1)) k 1 ((s_X1_copyFrom σ (k + 1) (j + 1)) j 1)) k 2 ((up (s_X1_copyFrom σ (k + 1) (j + 1)) k 1 ((s_X1_copyFrom σ (k + 1) (j + 1)) j 1)) j 2)) k 3 ((up (up (s_X1_copyFrom σ (k + 1) (j + 1)) k 1 ((s_X1_copyFrom σ (k + 1) (j + 1)) j 1)) k 2 ((up (s_X1_copyFrom σ (k + 1) (j + 1)) k 1 ((s_X1_copyFrom σ (k + 1) (j + 1)) j 1)) j 2)) j 3)) j 4)) j 5)) j 6)) j 7)) j 8)) j 9)) j 10)) k 11 ((up (up (up (up (up (up (up (up (up (up (s_X1_copyFrom σ (k + 1) (j + 1)) k 1 ((s_X1_copyFrom σ (k + 1) (j + 1)) j 1)) k 2 ((up (s_X1_copyFrom σ (k + 1) (j + 1)) k 1 ((s_X1_copyFrom σ (k + 1) (j + 1)) j 1)) j 2)) k 3 ((up (up (s_X1_copyFrom σ (k + 1) (j + 1)) k 1 ((s_X1_copyFrom σ (k + 1) (j + 1)) j 1)) k 2 ((up (s_X1_copyFrom σ (k + 1) (j + 1)) k 1 ((s_X1_copyFrom σ (k + 1) (j + 1)) j 1)) j 2)) j 3)) k 4 ((up (up (up (s_X1_copyFrom σ (k + 1) (j + 1)) k 1 ((s_X1_copyFrom σ (k + 1) (j + 1)) j 1)) k 2 ((up (s_X1_copyFrom σ (k + 1) (j + 1)) k 1 ((s_X1_copyFrom σ (k + 1) (j + 1)) j 1)) j 2)) k 3 ((up (up (s_X1_copyFrom σ (k + 1) (j + 1)) k 1 ((s_X1_copyFrom σ (k + 1) (j + 1)) j 1)) k 2 ((up (s_X1_copyFrom σ (k + 1) (j + 1)) k 1 ((s_X1_copyFrom σ (k + 1) (j + 1)) j 1)) j 2)) j 3)) j 4)) k 5 ((up (up (up (up (s_X1_copyFrom σ (k + 1) (j + 1)) k 1 ((s_X1_copyFrom σ (k + 1) (j + 1)) j 1)) k 2 ((up (s_X1_copyFrom σ (k + 1) (j + 1)) k 1 ((s_X1_copyFrom σ (k + 1) (j + 1)) j 1)) j 2)) k 3 ((up (up (s_X1_copyFrom σ (k + 1) (j + 1)) k 1 ((s_X1_copyFrom σ (k + 1) (j + 1)) j 1)) k 2 ((up (s_X1_copyFrom σ (k + 1) (j + 1)) k 1 ((s_X1_copyFrom σ (k + 1) (j + 1)) j 1)) j 2)) j 3)) k 4 ((up (up (up (s_X1_copyFrom σ (k + 1) (j + 1)) k 1 ((s_X1_copyFrom σ (k + 1) (j + 1)) j 1)) k 2 ((up (s_X1_copyFrom σ (k + 1) (j + 1)) k 1 ((s_X1_copyFrom σ (k + 1) (j + 1)) j 1)) j 2)) k 3 ((up (up (s_X1_copyFrom σ (k + 1) (j + 1)) k 1 ((s_X1_copyFrom σ (k + 1) (j + 1)) j 1)) k 2 ((up (s_X1_copyFrom σ (k + 1) (j + 1)) k 1 ((s_X1_copyFrom σ (k + 1) (j + 1)) j 1)) j 2)) j 3)) j 4)) j 5)) k 6 ((up (up (up (up (up (s_X1_copyFrom σ (k + 1) (j + 1)) k 1 ((s_X1_copyFrom σ (k + 1) (j + 1)) j 1)) k 2 ((up (s_X1_copyFrom σ (k + 1) (j + 1)) k 1 ((s_X1_copyFrom σ (k + 1) (j + 1)) j 1)) j 2)) k 3 ((up (up (s_X1_copyFrom σ (k + 1) (j + 1)) k 1 ((s_X1_copyFrom σ (k + 1) (j + 1)) j 1)) k 2 ((up (s_X1_copyFrom σ (k + 1) (j + 1)) k 1 ((s_X1_copyFrom σ (k + 1) (j + 1)) j 1)) j 2)) j 3)) k 4 ((up (up (up (s_X1_copyFrom σ (k + 1) (j + 1)) k 1 ((s_X1_copyFrom σ (k + 1) (j + 1)) j 1)) k 2 ((up (s_X1_copyFrom σ (k + 1) (j + 1)) k 1 ((s_X1_copyFrom σ (k + 1) (j + 1)) j 1)) j 2)) k 3 ((up (up (s_X1_copyFrom σ (k + 1) (j + 1)) k 1 ((s_X1_copyFrom σ (k + 1) (j + 1)) j 1)) k 2 ((up (s_X1_copyFrom σ (k + 1) (j + 1)) k 1 ((s_X1_copyFrom σ (k + 1) (j + 1)) j 1)) j 2)) j 3)) j 4)) k 5 ((up (up (up (up (s_X1_copyFrom σ (k + 1) (j + 1)) k 1 ((s_X1_copyFrom σ (k + 1) (j + 1)) j 1)) k 2 ((up (s_X1_copyFrom σ (k + 1) (j + 1)) k 1 ((s_X1_copyFrom σ (k + 1) (j + 1)) j 1)) j 2)) k 3 ((up (up (s_X1_copyFrom σ (k + 1) (j + 1)) k 1 ((s_X1_copyFrom σ (k + 1) (j + 1)) j 1)) k 2 ((up (s_X1_copyFrom σ (k + 1) (j + 1)) k 1 ((s_X1_copyFrom σ (k + 1) (j + 1)) j 1)) j 2)) j 3)) k 4 ((up (up (up (s_X1_copyFrom σ (k + 1) (j + 1)) k 1 ((s_X1_copyFrom σ (k + 1) (j + 1)) j 1)) k 2 ((up (s_X1_copyFrom σ (k + 1) (j + 1)) k 1 ((s_X1_copyFrom σ (k + 1) (j + 1)) j 1)) j 2)) k 3 ((up (up (s_X1_copyFrom σ (k + 1) (j + 1)) k 1 ((s_X1_copyFrom σ (k + 1) (j + 1)) j 1)) k 2 ((up (s_X1_copyFrom σ (k + 1) (j + 1)) k 1 ((s_X1_copyFrom σ (k + 1) (j + 1)) j 1)) j 2)) j 3)) j 4)) j 5)) j 6)) k 7 ((up (up (up (up (up (up (s_X1_copyFrom σ (k + 1) (j + 1)) k 1 ((s_X1_copyFrom σ (k + 1) (j + 1)) j 1)) k 2 ((up (s_X1_copyFrom σ (k + 1) (j + 1)) k 1 ((s_X1_copyFrom σ (k + 1) (j + 1)) j 1)) j 2)) k 3 ((up (up (s_X1_copyFrom σ (k + 1) (j + 1)) k 1 ((s_X1_copyFrom σ (k + 1) (j + 1)) j 1)) k 2 ((up (s_X1_copyFrom σ (k + 1) (j + 1)) k 1 ((s_X1_copyFrom σ (k + 1) (j + 1)) j 1)) j 2)) j 3)) k 4 ((up (up (up (s_X1_copyFrom σ (k + 1) (j + 1)) k 1 ((s_X1_copyFrom σ (k + 1) (j + 1)) j 1)) k 2 ((up (s_X1_copyFrom σ (k + 1) (j + 1)) k 1 ((s_X1_copyFrom σ (k + 1) (j + 1)) j 1)) j 2)) k 3 ((up (up (s_X1_copyFrom σ (k + 1) (j + 1)) k 1 ((s_X1_copyFrom σ (k + 1) (j + 1)) j 1)) k 2 ((up (s_X1_copyFrom σ (k + 1) (j + 1)) k 1 ((s_X1_copyFrom σ (k + 1) (j + 1)) j 1)) j 2)) j 3)) j 4)) k 5 ((up (up (up (up (s_X1_copyFrom σ (k + 1) (j + 1)) k 1 ((s_X1_copyFrom σ (k + 1) (j + 1)) j 1)) k 2 ((up (s_X1_copyFrom σ (k + 1) (j + 1)) k 1 ((s_X1_copyFrom σ (k + 1) (j + 1)) j 1)) j 2)) k 3 ((up (up (s_X1_copyFrom σ (k + 1) (j + 1)) k 1 ((s_X1_copyFrom σ (k + 1) (j + 1)) j 1)) k 2 ((up (s_X1_copyFrom σ (k + 1) (j + 1)) k 1 ((s_X1_copyFrom σ (k + 1) (j + 1)) j 1)) j 2)) j 3)) k 4 ((up (up (up (s_X1_copyFrom σ (k + 1) (j + 1)) k 1 ((s_X1_copyFrom σ (k + 1) (j + 1)) j 1)) k 2 ((up (s_X1_copyFrom σ (k + 1) (j + 1)) k 1 ((s_X1_copyFrom σ (k + 1) (j + 1)) j 1)) j 2)) k 3 ((up (up (s_X1_copyFrom σ (k + 1) (j + 1)) k 1 ((s_X1_copyFrom σ (k + 1) (j + 1)) j 1)) k 2 ((up (s_X1_copyFrom σ (k + 1) (j + 1)) k 1 ((s_X1_copyFrom σ (k + 1) (j + 1)) j 1)) j 2)) j 3)) j 4)) j 5)) k 6 ((up (up (up (up (up (s_X1_copyFrom σ (k + 1) (j + 1)) k 1 ((s_X1_copyFrom σ (k + 1) (j + 1)) j 1)) k 2 ((up (s_X1_copyFrom σ (k + 1) (j + 1)) k 1 ((s_X1_copyFrom σ (k + 1) (j + 1)) j 1)) j 2)) k 3 ((up (up (s_X1_copyFrom σ (k + 1) (j + 1)) k 1 ((s_X1_copyFrom σ (k + 1) (j + 1)) j 1)) k 2 ((up (s_X1_copyFrom σ (k + 1) (j + 1)) k 1 ((s_X1_copyFrom σ (k + 1) (j + 1)) j 1)) j 2)) j 3)) k 4 ((up (up (up (s_X1_copyFrom σ (k + 1) (j + 1)) k 1 ((s_X1_copyFrom σ (k + 1) (j + 1)) j 1)) k 2 ((up (s_X1_copyFrom σ (k + 1) (j + 1)) k 1 ((s_X1_copyFrom σ (k + 1) (j + 1)) j 1)) j 2)) k 3 ((up (up (s_X1_copyFrom σ (k + 1) (j + 1)) k 1 ((s_X1_copyFrom σ (k + 1) (j + 1)) j 1)) k 2 ((up (s_X1_copyFrom σ (k + 1) (j + 1)) k 1 ((s_X1_copyFrom σ (k + 1) (j + 1)) j 1)) j 2)) j 3)) j 4)) k 5 ((up (up (up (up (s_X1_copyFrom σ (k + 1) (j + 1)) k 1 ((s_X1_copyFrom σ (k + 1) (j + 1)) j 1)) k 2 ((up (s_X1_copyFrom σ (k + 1) (j + 1)) k 1 ((s_X1_copyFrom σ (k + 1) (j + 1)) j 1)) j 2)) k 3 ((up (up (s_X1_copyFrom σ (k + 1) (j + 1)) k 1 ((s_X1_copyFrom σ (k + 1) (j + 1)) j 1)) k 2 ((up (s_X1_copyFrom σ (k + 1) (j + 1)) k 1 ((s_X1_copyFrom σ (k + 1) (j + 1)) j 1)) j 2)) j 3)) k 4 ((up (up (up (s_X1_copyFrom σ (k + 1) (j + 1)) k 1 ((s_X1_copyFrom σ (k + 1) (j + 1)) j 1)) k 2 ((up (s_X1_copyFrom σ (k + 1) (j + 1)) k 1 ((s_X1_copyFrom σ (k + 1) (j + 1)) j 1)) j 2)) k 3 ((up (up (s_X1_copyFrom σ (k + 1) (j + 1)) k 1 ((s_X1_copyFrom σ (k + 1) (j + 1)) j 1)) k 2 ((up (s_X1_copyFrom σ (k + 1) (j + 1)) k 1 ((s_X1_copyFrom σ (k + 1) (j + 1)) j 1)) j 2)) j 3)) j 4)) j 5)) j 6)) j 7)) k 8 ((up (up (up (up (up (up (up (s_X1_copyFrom σ (k + 1) (j + 1)) k 1 ((s_X1_copyFrom σ (k + 1) (j + 1)) j 1)) k 2 ((up (s_X1_copyFrom σ (k + 1) (j + 1)) k 1 ((s_X1_copyFrom σ (k + 1) (j + 1)) j 1)) j 2)) k 3 ((up (up (s_X1_copyFrom σ (k + 1) (j + 1)) k 1 ((s_X1_copyFrom σ (k + 1) (j + 1)) j 1)) k 2 ((up (s_X1_copyFrom σ (k + 1) (j + 1)) k 1 ((s_X1_copyFrom σ (k + 1) (j + 1)) j 1)) j 2)) j 3)) k 4 ((up (up (up (s_X1_copyFrom σ (k + 1) (j + 1)) k 1 ((s_X1_copyFrom σ (k + 1) (j + 1)) j 1)) k 2 ((up (s_X1_copyFrom σ (k + 1) (j + 1)) k 1 ((s_X1_copyFrom σ (k + 1) (j + 1)) j 1)) j 2)) k 3 ((up (up (s_X1_copyFrom σ (k + 1) (j + 1)) k 1 ((s_X1_copyFrom σ (k + 1) (j + 1)) j 1)) k 2 ((up (s_X1_copyFrom σ (k + 1) (j + 1)) k 1 ((s_X1_copyFrom σ (k + 1) (j + 1)) j 1)) j 2)) j 3)) j 4)) k 5 ((up (up (up (up (s_X1_copyFrom σ (k + 1) (j + 1)) k 1 ((s_X1_copyFrom σ (k + 1) (j + 1)) j 1)) k 2 ((up (s_X1_copyFrom σ (k + 1) (j + 1)) k 1 ((s_X1_copyFrom σ (k + 1) (j + 1)) j 1)) j 2)) k 3 ((up (up (s_X1_copyFrom σ (k + 1) (j + 1)) k 1 ((s_X1_copyFrom σ (k + 1) (j + 1)) j 1)) k 2 ((up (s_X1_copyFrom σ (k + 1) (j + 1)) k 1 ((s_X1_copyFrom σ (k + 1) (j + 1)) j 1)) j 2)) j 3)) k 4 ((up (up (up (s_X1_copyFrom σ (k + 1) (j + 1)) k 1 ((s_X1_copyFrom σ (k + 1) (j + 1)) j 1)) k 2 ((up (s_X1_copyFrom σ (k + 1) (j + 1)) k 1 ((s_X1_copyFrom σ (k + 1) (j + 1)) j 1)) j 2)) k 3 ((up (up (s_X1_copyFrom σ (k + 1) (j + 1)) k 1 ((s_X1_copyFrom σ (k + 1) (j + 1)) j 1)) k 2 ((up (s_X1_copyFrom σ (k + 1) (j + 1)) k 1 ((s_X1_copyFrom σ (k + 1) (j + 1)) j 1)) j 2)) j 3)) j 4)) j 5)) k 6 ((up (up (up (up (up (s_X1_copyFrom σ (k + 1) (j + 1)) k 1 ((s_X1_copyFrom σ (k + 1) (j + 1)) j 1)) k 2 ((up (s_X1_copyFrom σ (k + 1) (j + 1)) k 1 ((s_X1_copyFrom σ (k + 1) (j + 1)) j 1)) j 2)) k 3 ((up (up (s_X1_copyFrom σ (k + 1) (j + 1)) k 1 ((s_X1_copyFrom σ (k + 1) (j + 1)) j 1)) k 2 ((up (s_X1_copyFrom σ (k + 1) (j + 1)) k 1 ((s_X1_copyFrom σ (k + 1) (j + 1)) j 1)) j 2)) j 3)) k 4 ((up (up (up (s_X1_copyFrom σ (k + 1) (j + 1)) k 1 ((s_X1_copyFrom σ (k + 1) (j + 1)) j 1)) k 2 ((up (s_X1_copyFrom σ (k + 1) (j + 1)) k 1 ((s_X1_copyFrom σ (k + 1) (j + 1)) j 1)) j 2)) k 3 ((up (up (s_X1_copyFrom σ (k + 1) (j + 1)) k 1 ((s_X1_copyFrom σ (k + 1) (j + 1)) j 1)) k 2 ((up (s_X1_copyFrom σ (k + 1) (j + 1)) k 1 ((s_X1_copyFrom σ (k + 1) (j + 1)) j 1)) j 2)) j 3)) j 4)) k 5 ((up (up (up (up (s_X1_copyFrom σ (k + 1) (j + 1)) k 1 ((s_X1_copyFrom σ (k + 1) (j + 1)) j 1)) k 2 ((up (s_X1_copyFrom σ (k + 1) (j + 1)) k 1 ((s_X1_copyFrom σ (k + 1) (j + 1)) j 1)) j 2)) k 3 ((up (up (s_X1_copyFrom σ (k + 1) (j + 1)) k 1 ((s_X1_copyFrom σ (k + 1) (j + 1)) j 1)) k 2 ((up (s_X1_copyFrom σ (k + 1) (j + 1)) k 1 ((s_X1_copyFrom σ (k + 1) (j + 1)) j 1)) j 2)) j 3)) k 4 ((up (up (up (s_X1_copyFrom σ (k + 1) (j + 1)) k 1 ((s_X1_copyFrom σ (k + 1) (j + 1)) j 1)) k 2 ((up (s_X1_copyFrom σ (k + 1) (j + 1)) k 1 ((s_X1_copyFrom σ (k + 1) (j + 1)) j 1)) j 2)) k 3 ((up (up (s_X1_copyFrom σ (k + 1) (j + 1)) k 1 ((s_X1_copyFrom σ (k + 1) (j + 1)) j 1)) k 2 ((up (s_X1_copyFrom σ (k + 1) (j + 1)) k 1 ((s_X1_copyFrom σ (k + 1) (j + 1)) j 1)) j 2)) j 3)) j 4)) j 5)) j 6)) k 7 ((up (up (up (up (up (up (s_X1_copyFrom σ (k + 1) (j + 1)) k 1 ((s_X1_copyFrom σ (k + 1) (j + 1)) j 1)) k 2 ((up (s_X1_copyFrom σ (k + 1) (j + 1)) k 1 ((s_X1_copyFrom σ (k + 1) (j + 1)) j 1)) j 2)) k 3 ((up (up (s_X1_copyFrom σ (k + 1) (j + 1)) k 1 ((s_X1_copyFrom σ (k + 1) (j + 1)) j 1)) k 2 ((up (s_X1_copyFrom σ (k + 1) (j + 1)) k 1 ((s_X1_copyFrom σ (k + 1) (j + 1)) j 1)) j 2)) j 3)) k 4 ((up (up (up (s_X1_copyFrom σ (k + 1) (j + 1)) k 1 ((s_X1_copyFrom σ (k + 1) (j + 1)) j 1)) k 2 ((up (s_X1_copyFrom σ (k + 1) (j + 1)) k 1 ((s_X1_copyFrom σ (k + 1) (j + 1)) j 1)) j 2)) k 3 ((up (up (s_X1_copyFrom σ (k + 1) (j + 1)) k 1 ((s_X1_copyFrom σ (k + 1) (j + 1)) j 1)) k 2 ((up (s_X1_copyFrom σ (k + 1) (j + 1)) k 1 ((s_X1_copyFrom σ (k + 1) (j + 1)) j 1)) j 2)) j 3)) j 4)) k 5 ((up (up (up (up (s_X1_copyFrom σ (k + 1) (j + 1)) k 1 ((s_X1_copyFrom σ (k + 1) (j + 1)) j 1)) k 2 ((up (s_X1_copyFrom σ (k + 1) (j + 1)) k 1 ((s_X1_copyFrom σ (k + 1) (j + 1)) j 1)) j 2)) k 3 ((up (up (s_X1_copyFrom σ (k + 1) (j + 1)) k 1 ((s_X1_copyFrom σ (k + 1) (j + 1)) j 1)) k 2 ((up (s_X1_copyFrom σ (k + 1) (j + 1)) k 1 ((s_X1_copyFrom σ (k + 1) (j + 1)) j 1)) j 2)) j 3)) k 4 ((up (up (up (s_X1_copyFrom σ (k + 1) (j + 1)) k 1 ((s_X1_copyFrom σ (k + 1) (j + 1)) j 1)) k 2 ((up (s_X1_copyFrom σ (k + 1) (j + 1)) k 1 ((s_X1_copyFrom σ (k + 1) (j + 1)) j 1)) j 2)) k 3 ((up (up (s_X1_copyFrom σ (k + 1) (j + 1)) k 1 ((s_X1_copyFrom σ (k + 1) (j + 1)) j 1)) k 2 ((up (s_X1_copyFrom σ (k + 1) (j + 1)) k 1 ((s_X1_copyFrom σ (k + 1) (j + 1)) j 1)) j 2)) j 3)) j 4)) j 5)) k 6 ((up (up (up (up (up (s_X1_copyFrom σ (k + 1) (j + 1)) k 1 ((s_X1_copyFrom σ (k + 1) (j + 1)) j 1)) k 2 ((up (s_X1_copyFrom σ (k + 1) (j + 1)) k 1 ((s_X1_copyFrom σ (k + 1) (j + 1)) j 1)) j 2)) k 3 ((up (up (s_X1_copyFrom σ (k + 1) (j + 1)) k 1 ((s_X1_copyFrom σ (k + 1) (j + 1)) j 1)) k 2 ((up (s_X1_copyFrom σ (k + 1) (j + 1)) k 1 ((s_X1_copyFrom σ (k + 1) (j + 1)) j 1)) j 2)) j 3)) k 4 ((up (up (up (s_X1_copyFrom σ (k + 1) (j + 1)) k 1 ((s_X1_copyFrom σ (k + 1) (j + 1)) j 1)) k 2 ((up (s_X1_copyFrom σ (k + 1) (j + 1)) k 1 ((s_X1_copyFrom σ (k + 1) (j + 1)) j 1)) j 2)) k 3 ((up (up (s_X1_copyFrom σ (k + 1) (j + 1)) k 1 ((s_X1_copyFrom σ (k + 1) (j + 1)) j 1)) k 2 ((up (s_X1_copyFrom σ (k + 1) (j + 1)) k 1 ((s_X1_copyFrom σ (k + 1) (j + 1)) j 1)) j 2)) j 3)) j 4)) k 5 ((up (up (up (up (s_X1_copyFrom σ (k + 1) (j + 1)) k 1 ((s_X1_copyFrom σ (k + 1) (j + 1)) j 1)) k 2 ((up (s_X1_copyFrom σ (k + 1) (j + 1)) k 1 ((s_X1_copyFrom σ (k + 1) (j + 1)) j 1)) j 2)) k 3 ((up (up (s_X1_copyFrom σ (k + 1) (j + 1)) k 1 ((s_X1_copyFrom σ (k + 1) (j + 1)) j 1)) k 2 ((up (s_X1_copyFrom σ (k + 1) (j + 1)) k 1 ((s_X1_copyFrom σ (k + 1) (j + 1)) j 1)) j 2)) j 3)) k 4 ((up (up (up (s_X1_copyFrom σ (k + 1) (j + 1)) k 1 ((s_X1_copyFrom σ (k + 1) (j + 1)) j 1)) k 2 ((up (s_X1_copyFrom σ (k + 1) (j + 1)) k 1 ((s_X1_copyFrom σ (k + 1) (j + 1)) j 1)) j 2)) k 3 ((up (up (s_X1_copyFrom σ (k + 1) (j + 1)) k 1 ((s_X1_copyFrom σ (k + 1) (j + 1)) j 1)) k 2 ((up (s_X1_copyFrom σ (k + 1) (j + 1)) k 1 ((s_X1_copyFrom σ (k + 1) (j + 1)) j 1)) j 2)) j 3)) j 4)) j 5)) j 6)) j 7)) j 8)) k 9 ((up (up (up (up (up (up (up (up (s_X1_copyFrom σ (k + 1) (j + 1)) k 1 ((s_X1_copyFrom σ (k + 1) (j + 1)) j 1)) k 2 ((up (s_X1_copyFrom σ (k + 1) (j + 1)) k 1 ((s_X1_copyFrom σ (k + 1) (j + 1)) j 1)) j 2)) k 3 ((up (up (s_X1_copyFrom σ (k + 1) (j + 1)) k 1 ((s_X1_copyFrom σ (k + 1) (j + 1)) j 1)) k 2 ((up (s_X1_copyFrom σ (k + 1) (j + 1)) k 1 ((s_X1_copyFrom σ (k + 1) (j + 1)) j 1)) j 2)) j 3)) k 4 ((up (up (up (s_X1_copyFrom σ (k + 1) (j + 1)) k 1 ((s_X1_copyFrom σ (k + 1) (j + 1)) j 1)) k 2 ((up (s_X1_copyFrom σ (k + 1) (j + 1)) k 1 ((s_X1_copyFrom σ (k + 1) (j + 1)) j 1)) j 2)) k 3 ((up (up (s_X1_copyFrom σ (k + 1) (j + 1)) k 1 ((s_X1_copyFrom σ (k + 1) (j + 1)) j 1)) k 2 ((up (s_X1_copyFrom σ (k + 1) (j + 1)) k 1 ((s_X1_copyFrom σ (k + 1) (j + 1)) j 1)) j 2)) j 3)) j 4)) k 5 ((up (up (up (up (s_X1_copyFrom σ (k + 1) (j + 1)) k 1 ((s_X1_copyFrom σ (k + 1) (j + 1)) j 1)) k 2 ((up (s_X1_copyFrom σ (k + 1) (j + 1)) k 1 ((s_X1_copyFrom σ (k + 1) (j + 1)) j 1)) j 2)) k 3 ((up (up (s_X1_copyFrom σ (k + 1) (j + 1)) k 1 ((s_X1_copyFrom σ (k + 1) (j + 1)) j 1)) k 2 ((up (s_X1_copyFrom σ (k + 1) (j + 1)) k 1 ((s_X1_copyFrom σ (k + 1) (j + 1)) j 1)) j 2)) j 3)) k 4 ((up (up (up (s_X1_copyFrom σ (k + 1) (j + 1)) k 1 ((s_X1_copyFrom σ (k + 1) (j + 1)) j 1)) k 2 ((up (s_X1_copyFrom σ (k + 1) (j + 1)) k 1 ((s_X1_copyFrom σ (k + 1) (j + 1)) j 1)) j 2)) k 3 ((up (up (s_X1_copyFrom σ (k + 1) (j + 1)) k 1 ((s_X1_copyFrom σ (k + 1) (j + 1)) j 1)) k 2 ((up (s_X1_copyFrom σ (k + 1) (j + 1)) k 1 ((s_X1_copyFrom σ (k + 1) (j + 1)) j 1)) j 2)) j 3)) j 4)) j 5)) k 6 ((up (up (up (up (up (s_X1_copyFrom σ (k + 1) (j + 1)) k 1 ((s_X1_copyFrom σ (k + 1) (j + 1)) j 1)) k 2 ((up (s_X1_copyFrom σ (k + 1) (j + 1)) k 1 ((s_X1_copyFrom σ (k + 1) (j + 1)) j 1)) j 2)) k 3 ((up (up (s_X1_copyFrom σ (k + 1) (j + 1)) k 1 ((s_X1_copyFrom σ (k + 1) (j + 1)) j 1)) k 2 ((up (s_X1_copyFrom σ (k + 1) (j + 1)) k 1 ((s_X1_copyFrom σ (k + 1) (j + 1)) j 1)) j 2)) j 3)) k 4 ((up (up (up (s_X1_copyFrom σ (k + 1) (j + 1)) k 1 ((s_X1_copyFrom σ (k + 1) (j + 1)) j 1)) k 2 ((up (s_X1_copyFrom σ (k + 1) (j + 1)) k 1 ((s_X1_copyFrom σ (k + 1) (j + 1)) j 1)) j 2)) k 3 ((up (up (s_X1_copyFrom σ (k + 1) (j + 1)) k 1 ((s_X1_copyFrom σ (k + 1) (j + 1)) j 1)) k 2 ((up (s_X1_copyFrom σ (k + 1) (j + 1)) k 1 ((s_X1_copyFrom σ (k + 1) (j + 1)) j 1)) j 2)) j 3)) j 4)) k 5 ((up (up (up (up (s_X1_copyFrom σ (k + 1) (j + 1)) k 1 ((s_X1_copyFrom σ (k + 1) (j + 1)) j 1)) k 2 ((up (s_X1_copyFrom σ (k + 1) (j + 1)) k 1 ((s_X1_copyFrom σ (k + 1) (j + 1)) j 1)) j 2)) k 3 ((up (up (s_X1_copyFrom σ (k + 1) (j + 1)) k 1 ((s_X1_copyFrom σ (k + 1) (j + 1)) j 1)) k 2 ((up (s_X1_copyFrom σ (k + 1) (j + 1)) k 1 ((s_X1_copyFrom σ (k + 1) (j + 1)) j 1)) j 2)) j 3)) k 4 ((up (up (up (s_X1_copyFrom σ (k + 1) (j + 1)) k 1 ((s_X1_copyFrom σ (k + 1) (j + 1)) j 1)) k 2 ((up (s_X1_copyFrom σ (k + 1) (j + 1)) k 1 ((s_X1_copyFrom σ (k + 1) (j + 1)) j 1)) j 2)) k 3 ((up (up (s_X1_copyFrom σ (k + 1) (j + 1)) k 1 ((s_X1_copyFrom σ (k + 1) (j + 1)) j 1)) k 2 ((up (s_X1_copyFrom σ (k + 1) (j + 1)) k 1 ((s_X1_copyFrom σ (k + 1) (j + 1)) j 1)) j 2)) j 3)) j 4)) j 5)) j 6)) k 7 ((up (up (up (up (up (up (s_X1_copyFrom σ (k + 1) (j + 1)) k 1 ((s_X1_copyFrom σ (k + 1) (j + 1)) j 1)) k 2 ((up (s_X1_copyFrom σ (k + 1) (j + 1)) k 1 ((s_X1_copyFrom σ (k + 1) (j + 1)) j 1)) j 2)) k 3 ((up (up (s_X1_copyFrom σ (k + 1) (j + 1)) k 1 ((s_X1_copyFrom σ (k + 1) (j + 1)) j 1)) k 2 ((up (s_X1_copyFrom σ (k + 1) (j + 1)) k 1 ((s_X1_copyFrom σ (k + 1) (j + 1)) j 1)) j 2)) j 3)) k 4 ((up (up (up (s_X1_copyFrom σ (k + 1) (j + 1)) k 1 ((s_X1_copyFrom σ (k + 1) (j + 1)) j 1)) k 2 ((up (s_X1_copyFrom σ (k + 1) (j + 1)) k 1 ((s_X1_copyFrom σ (k + 1) (j + 1)) j 1)) j 2)) k 3 ((up (up (s_X1_copyFrom σ (k + 1) (j + 1)) k 1 ((s_X1_copyFrom σ (k + 1) (j + 1)) j 1)) k 2 ((up (s_X1_copyFrom σ (k + 1) (j + 1)) k 1 ((s_X1_copyFrom σ (k + 1) (j + 1)) j 1)) j 2)) j 3)) j 4)) k 5 ((up (up (up (up (s_X1_copyFrom σ (k + 1) (j + 1)) k 1 ((s_X1_copyFrom σ (k + 1) (j + 1)) j 1)) k 2 ((up (s_X1_copyFrom σ (k + 1) (j + 1)) k 1 ((s_X1_copyFrom σ (k + 1) (j + 1)) j 1)) j 2)) k 3 ((up (up (s_X1_copyFrom σ (k + 1) (j + 1)) k 1 ((s_X1_copyFrom σ (k + 1) (j + 1)) j 1)) k 2 ((up (s_X1_copyFrom σ (k + 1) (j + 1)) k 1 ((s_X1_copyFrom σ (k + 1) (j + 1)) j 1)) j 2)) j 3)) k 4 ((up (up (up (s_X1_copyFrom σ (k + 1) (j + 1)) k 1 ((s_X1_copyFrom σ (k + 1) (j + 1)) j 1)) k 2 ((up (s_X1_copyFrom σ (k + 1) (j + 1)) k 1 ((s_X1_copyFrom σ (k + 1) (j + 1)) j 1)) j 2)) k 3 ((up (up (s_X1_copyFrom σ (k + 1) (j + 1)) k 1 ((s_X1_copyFrom σ (k + 1) (j + 1)) j 1)) k 2 ((up (s_X1_copyFrom σ (k + 1) (j + 1)) k 1 ((s_X1_copyFrom σ (k + 1) (j + 1)) j 1)) j 2)) j 3)) j 4)) j 5)) k 6 ((up (up (up (up (up (s_X1_copyFrom σ (k + 1) (j + 1)) k 1 ((s_X1_copyFrom σ (k + 1) (j + 1)) j 1)) k 2 ((up (s_X1_copyFrom σ (k + 1) (j + 1)) k 1 ((s_X1_copyFrom σ (k + 1) (j + 1)) j 1)) j 2)) k 3 ((up (up (s_X1_copyFrom σ (k + 1) (j + 1)) k 1 ((s_X1_copyFrom σ (k + 1) (j + 1)) j 1)) k 2 ((up (s_X1_copyFrom σ (k + 1) (j + 1)) k 1 ((s_X1_copyFrom σ (k + 1) (j + 1)) j 1)) j 2)) j 3)) k 4 ((up (up (up (s_X1_copyFrom σ (k + 1) (j + 1)) k 1 ((s_X1_copyFrom σ (k + 1) (j + 1)) j 1)) k 2 ((up (s_X1_copyFrom σ (k + 1) (j + 1)) k 1 ((s_X1_copyFrom σ (k + 1) (j + 1)) j 1)) j 2)) k 3 ((up (up (s_X1_copyFrom σ (k + 1) (j + 1)) k 1 ((s_X1_copyFrom σ (k + 1) (j + 1)) j 1)) k 2 ((up (s_X1_copyFrom σ (k + 1) (j + 1)) k 1 ((s_X1_copyFrom σ (k + 1) (j + 1)) j 1)) j 2)) j 3)) j 4)) k 5 ((up (up (up (up (s_X1_copyFrom σ (k + 1) (j + 1)) k 1 ((s_X1_copyFrom σ (k + 1) (j + 1)) j 1)) k 2 ((up (s_X1_copyFrom σ (k + 1) (j + 1)) k 1 ((s_X1_copyFrom σ (k + 1) (j + 1)) j 1)) j 2)) k 3 ((up (up (s_X1_copyFrom σ (k + 1) (j + 1)) k 1 ((s_X1_copyFrom σ (k + 1) (j + 1)) j 1)) k 2 ((up (s_X1_copyFrom σ (k + 1) (j + 1)) k 1 ((s_X1_copyFrom σ (k + 1) (j + 1)) j 1)) j 2)) j 3)) k 4 ((up (up (up (s_X1_copyFrom σ (k + 1) (j + 1)) k 1 ((s_X1_copyFrom σ (k + 1) (j + 1)) j 1)) k 2 ((up (s_X1_copyFrom σ (k + 1) (j + 1)) k 1 ((s_X1_copyFrom σ (k + 1) (j + 1)) j 1)) j 2)) k 3 ((up (up (s_X1_copyFrom σ (k + 1) (j + 1)) k 1 ((s_X1_copyFrom σ (k + 1) (j + 1)) j 1)) k 2 ((up (s_X1_copyFrom σ (k + 1) (j + 1)) k 1 ((s_X1_copyFrom σ (k + 1) (j + 1)) j 1)) j 2)) j 3)) j 4)) j 5)) j 6)) j 7)) k 8 ((up (up (up (up (up (up (up (s_X1_copyFrom σ (k + 1) (j + 1)) k 1 ((s_X1_copyFrom σ (k + 1) (j + 1)) j 1)) k 2 ((up (s_X1_copyFrom σ (k + 1) (j + 1)) k 1 ((s_X1_copyFrom σ (k + 1) (j + 1)) j 1)) j 2)) k 3 ((up (up (s_X1_copyFrom σ (k + 1) (j + 1)) k 1 ((s_X1_copyFrom σ (k + 1) (j + 1)) j 1)) k 2 ((up (s_X1_copyFrom σ (k + 1) (j + 1)) k 1 ((s_X1_copyFrom σ (k + 1) (j + 1)) j 1)) j 2)) j 3)) k 4 ((up (up (up (s_X1_copyFrom σ (k + 1) (j + 1)) k 1 ((s_X1_copyFrom σ (k + 1) (j + 1)) j 1)) k 2 ((up (s_X1_copyFrom σ (k + 1) (j + 1)) k 1 ((s_X1_copyFrom σ (k + 1) (j + 1)) j 1)) j 2)) k 3 ((up (up (s_X1_copyFrom σ (k + 1) (j + 1)) k 1 ((s_X1_copyFrom σ (k + 1) (j + 1)) j 1)) k 2 ((up (s_X1_copyFrom σ (k + 1) (j + 1)) k 1 ((s_X1_copyFrom σ (k + 1) (j + 1)) j 1)) j 2)) j 3)) j 4)) k 5 ((up (up (up (up (s_X1_copyFrom σ (k + 1) (j + 1)) k 1 ((s_X1_copyFrom σ (k + 1) (j + 1)) j 1)) k 2 ((up (s_X1_copyFrom σ (k + 1) (j + 1)) k 1 ((s_X1_copyFrom σ (k + 1) (j + 1)) j 1)) j 2)) k 3 ((up (up (s_X1_copyFrom σ (k + 1) (j + 1)) k 1 ((s_X1_copyFrom σ (k + 1) (j + 1)) j 1)) k 2 ((up (s_X1_copyFrom σ (k + 1) (j + 1)) k 1 ((s_X1_copyFrom σ (k + 1) (j + 1)) j 1)) j 2)) j 3)) k 4 ((up (up (up (s_X1_copyFrom σ (k + 1) (j + 1)) k 1 ((s_X1_copyFrom σ (k + 1) (j + 1)) j 1)) k 2 ((up (s_X1_copyFrom σ (k + 1) (j + 1)) k 1 ((s_X1_copyFrom σ (k + 1) (j + 1)) j 1)) j 2)) k 3 ((up (up (s_X1_copyFrom σ (k + 1) (j + 1)) k 1 ((s_X1_copyFrom σ (k + 1) (j + 1)) j 1)) k 2 ((up (s_X1_copyFrom σ (k + 1) (j + 1)) k 1 ((s_X1_copyFrom σ (k + 1) (j + 1)) j 1)) j 2)) j 3)) j 4)) j 5)) k 6 ((up (up (up (up (up (s_X1_copyFrom σ (k + 1) (j + 1)) k 1 ((s_X1_copyFrom σ (k + 1) (j + 1)) j 1)) k 2 ((up (s_X1_copyFrom σ (k + 1) (j + 1)) k 1 ((s_X1_copyFrom σ (k + 1) (j + 1)) j 1)) j 2)) k 3 ((up (up (s_X1_copyFrom σ (k + 1) (j + 1)) k 1 ((s_X1_copyFrom σ (k + 1) (j + 1)) j 1)) k 2 ((up (s_X1_copyFrom σ (k + 1) (j + 1)) k 1 ((s_X1_copyFrom σ (k + 1) (j + 1)) j 1)) j 2)) j 3)) k 4 ((up (up (up (s_X1_copyFrom σ (k + 1) (j + 1)) k 1 ((s_X1_copyFrom σ (k + 1) (j + 1)) j 1)) k 2 ((up (s_X1_copyFrom σ (k + 1) (j + 1)) k 1 ((s_X1_copyFrom σ (k + 1) (j + 1)) j 1)) j 2)) k 3 ((up (up (s_X1_copyFrom σ (k + 1) (j + 1)) k 1 ((s_X1_copyFrom σ (k + 1) (j + 1)) j 1)) k 2 ((up (s_X1_copyFrom σ (k + 1) (j + 1)) k 1 ((s_X1_copyFrom σ (k + 1) (j + 1)) j 1)) j 2)) j 3)) j 4)) k 5 ((up (up (up (up (s_X1_copyFrom σ (k + 1) (j + 1)) k 1 ((s_X1_copyFrom σ (k + 1) (j + 1)) j 1)) k 2 ((up (s_X1_copyFrom σ (k + 1) (j + 1)) k 1 ((s_X1_copyFrom σ (k + 1) (j + 1)) j 1)) j 2)) k 3 ((up (up (s_X1_copyFrom σ (k + 1) (j + 1)) k 1 ((s_X1_copyFrom σ (k + 1) (j + 1)) j 1)) k 2 ((up (s_X1_copyFrom σ (k + 1) (j + 1)) k 1 ((s_X1_copyFrom σ (k + 1) (j + 1)) j 1)) j 2)) j 3)) k 4 ((up (up (up (s_X1_copyFrom σ (k + 1) (j + 1)) k 1 ((s_X1_copyFrom σ (k + 1) (j + 1)) j 1)) k 2 ((up (s_X1_copyFrom σ (k + 1) (j + 1)) k 1 ((s_X1_copyFrom σ (k + 1) (j + 1)) j 1)) j 2)) k 3 ((up (up (s_X1_copyFrom σ (k + 1) (j + 1)) k 1 ((s_X1_copyFrom σ (k + 1) (j + 1)) j 1)) k 2 ((up (s_X1_copyFrom σ (k + 1) (j + 1)) k 1 ((s_X1_copyFrom σ (k + 1) (j + 1)) j 1)) j 2)) j 3)) j 4)) j 5)) j 6)) k 7 ((up (up (up (up (up (up (s_X1_copyFrom σ (k + 1) (j + 1)) k 1 ((s_X1_copyFrom σ (k + 1) (j + 1)) j 1)) k 2 ((up (s_X1_copyFrom σ (k + 1) (j + 1)) k 1 ((s_X1_copyFrom σ (k + 1) (j + 1)) j 1)) j 2)) k 3 ((up (up (s_X1_copyFrom σ (k + 1) (j + 1)) k 1 ((s_X1_copyFrom σ (k + 1) (j + 1)) j 1)) k 2 ((up (s_X1_copyFrom σ (k + 1) (j + 1)) k 1 ((s_X1_copyFrom σ (k + 1) (j + 1)) j 1)) j 2)) j 3)) k 4 ((up (up (up (s_X1_copyFrom σ (k + 1) (j + 1)) k 1 ((s_X1_copyFrom σ (k + 1) (j + 1)) j 1)) k 2 ((up (s_X1_copyFrom σ (k + 1) (j + 1)) k 1 ((s_X1_copyFrom σ (k + 1) (j + 1)) j 1)) j 2)) k 3 ((up (up (s_X1_copyFrom σ (k + 1) (j + 1)) k 1 ((s_X1_copyFrom σ (k + 1) (j + 1)) j 1)) k 2 ((up (s_X1_copyFrom σ (k + 1) (j + 1)) k 1 ((s_X1_copyFrom σ (k + 1) (j + 1)) j 1)) j 2)) j 3)) j 4)) k 5 ((up (up (up (up (s_X1_copyFrom σ (k + 1) (j + 1)) k 1 ((s_X1_copyFrom σ (k + 1) (j + 1)) j 1)) k 2 ((up (s_X1_copyFrom σ (k + 1) (j + 1)) k 1 ((s_X1_copyFrom σ (k + 1) (j + 1)) j 1)) j 2)) k 3 ((up (up (s_X1_copyFrom σ (k + 1) (j + 1)) k 1 ((s_X1_copyFrom σ (k + 1) (j + 1)) j 1)) k 2 ((up (s_X1_copyFrom σ (k + 1) (j + 1)) k 1 ((s_X1_copyFrom σ (k + 1) (j + 1)) j 1)) j 2)) j 3)) k 4 ((up (up (up (s_X1_copyFrom σ (k + 1) (j + 1)) k 1 ((s_X1_copyFrom σ (k + 1) (j + 1)) j 1)) k 2 ((up (s_X1_copyFrom σ (k + 1) (j + 1)) k 1 ((s_X1_copyFrom σ (k + 1) (j + 1)) j 1)) j 2)) k 3 ((up (up (s_X1_copyFrom σ (k + 1) (j + 1)) k 1 ((s_X1_copyFrom σ (k + 1) (j + 1)) j 1)) k 2 ((up (s_X1_copyFrom σ (k + 1) (j + 1)) k 1 ((s_X1_copyFrom σ (k + 1) (j + 1)) j 1)) j 2)) j 3)) j 4)) j 5)) k 6 ((up (up (up (up (up (s_X1_copyFrom σ (k + 1) (j + 1)) k 1 ((s_X1_copyFrom σ (k + 1) (j + 1)) j 1)) k 2 ((up (s_X1_copyFrom σ (k + 1) (j + 1)) k 1 ((s_X1_copyFrom σ (k + 1) (j + 1)) j 1)) j 2)) k 3 ((up (up (s_X1_copyFrom σ (k + 1) (j + 1)) k 1 ((s_X1_copyFrom σ (k + 1) (j + 1)) j 1)) k 2 ((up (s_X1_copyFrom σ (k + 1) (j + 1)) k 1 ((s_X1_copyFrom σ (k + 1) (j + 1)) j 1)) j 2)) j 3)) k 4 ((up (up (up (s_X1_copyFrom σ (k + 1) (j + 1)) k 1 ((s_X1_copyFrom σ (k + 1) (j + 1)) j 1)) k 2 ((up (s_X1_copyFrom σ (k + 1) (j + 1)) k 1 ((s_X1_copyFrom σ (k + 1) (j + 1)) j 1)) j 2)) k 3 ((up (up (s_X1_copyFrom σ (k + 1) (j + 1)) k 1 ((s_X1_copyFrom σ (k + 1) (j + 1)) j 1)) k 2 ((up (s_X1_copyFrom σ (k + 1) (j + 1)) k 1 ((s_X1_copyFrom σ (k + 1) (j + 1)) j 1)) j 2)) j 3)) j 4)) k 5 ((up (up (up (up (s_X1_copyFrom σ (k + 1) (j + 1)) k 1 ((s_X1_copyFrom σ (k + 1) (j + 1)) j 1)) k 2 ((up (s_X1_copyFrom σ (k + 1) (j + 1)) k 1 ((s_X1_copyFrom σ (k + 1) (j + 1)) j 1)) j 2)) k 3 ((up (up (s_X1_copyFrom σ (k + 1) (j + 1)) k 1 ((s_X1_copyFrom σ (k + 1) (j + 1)) j 1)) k 2 ((up (s_X1_copyFrom σ (k + 1) (j + 1)) k 1 ((s_X1_copyFrom σ (k + 1) (j + 1)) j 1)) j 2)) j 3)) k 4 ((up (up (up (s_X1_copyFrom σ (k + 1) (j + 1)) k 1 ((s_X1_copyFrom σ (k + 1) (j + 1)) j 1)) k 2 ((up (s_X1_copyFrom σ (k + 1) (j + 1)) k 1 ((s_X1_copyFrom σ (k + 1) (j + 1)) j 1)) j 2)) k 3 ((up (up (s_X1_copyFrom σ (k + 1) (j + 1)) k 1 ((s_X1_copyFrom σ (k + 1) (j + 1)) j 1)) k 2 ((up (s_X1_copyFrom σ (k + 1) (j + 1)) k 1 ((s_X1_copyFrom σ (k + 1) (j + 1)) j 1)) j 2)) j 3)) j 4)) j 5)) j 6)) j 7)) j 8)) j 9)) k 10 ((up (up (up (up (up (up (up (up (up (s_X1_copyFrom σ (k + 1) (j + 1)) k 1 ((s_X1_copyFrom σ (k + 1) (j + 1)) j 1)) k 2 ((up (s_X1_copyFrom σ (k + 1) (j + 1)) k 1 ((s_X1_copyFrom σ (k + 1) (j + 1)) j 1)) j 2)) k 3 ((up (up (s_X1_copyFrom σ (k + 1) (j + 1)) k 1 ((s_X1_copyFrom σ (k + 1) (j + 1)) j 1)) k 2 ((up (s_X1_copyFrom σ (k + 1) (j + 1)) k 1 ((s_X1_copyFrom σ (k + 1) (j + 1)) j 1)) j 2)) j 3)) k 4 ((up (up (up (s_X1_copyFrom σ (k + 1) (j + 1)) k 1 ((s_X1_copyFrom σ (k + 1) (j + 1)) j 1)) k 2 ((up (s_X1_copyFrom σ (k + 1) (j + 1)) k 1 ((s_X1_copyFrom σ (k + 1) (j + 1)) j 1)) j 2)) k 3 ((up (up (s_X1_copyFrom σ (k + 1) (j + 1)) k 1 ((s_X1_copyFrom σ (k + 1) (j + 1)) j 1)) k 2 ((up (s_X1_copyFrom σ (k + 1) (j + 1)) k 1 ((s_X1_copyFrom σ (k + 1) (j + 1)) j 1)) j 2)) j 3)) j 4)) k 5 ((up (up (up (up (s_X1_copyFrom σ (k + 1) (j + 1)) k 1 ((s_X1_copyFrom σ (k + 1) (j + 1)) j 1)) k 2 ((up (s_X1_copyFrom σ (k + 1) (j + 1)) k 1 ((s_X1_copyFrom σ (k + 1) (j + 1)) j 1)) j 2)) k 3 ((up (up (s_X1_copyFrom σ (k + 1) (j + 1)) k 1 ((s_X1_copyFrom σ (k + 1) (j + 1)) j 1)) k 2 ((up (s_X1_copyFrom σ (k + 1) (j + 1)) k 1 ((s_X1_copyFrom σ (k + 1) (j + 1)) j 1)) j 2)) j 3)) k 4 ((up (up (up (s_X1_copyFrom σ (k + 1) (j + 1)) k 1 ((s_X1_copyFrom σ (k + 1) (j + 1)) j 1)) k 2 ((up (s_X1_copyFrom σ (k + 1) (j + 1)) k 1 ((s_X1_copyFrom σ (k + 1) (j + 1)) j 1)) j 2)) k 3 ((up (up (s_X1_copyFrom σ (k + 1) (j + 1)) k 1 ((s_X1_copyFrom σ (k + 1) (j + 1)) j 1)) k 2 ((up (s_X1_copyFrom σ (k + 1) (j + 1)) k 1 ((s_X1_copyFrom σ (k + 1) (j + 1)) j 1)) j 2)) j 3)) j 4)) j 5)) k 6 ((up (up (up (up (up (s_X1_copyFrom σ (k + 1) (j + 1)) k 1 ((s_X1_copyFrom σ (k + 1) (j + 1)) j 1)) k 2 ((up (s_X1_copyFrom σ (k + 1) (j + 1)) k 1 ((s_X1_copyFrom σ (k + 1) (j + 1)) j 1)) j 2)) k 3 ((up (up (s_X1_copyFrom σ (k + 1) (j + 1)) k 1 ((s_X1_copyFrom σ (k + 1) (j + 1)) j 1)) k 2 ((up (s_X1_copyFrom σ (k + 1) (j + 1)) k 1 ((s_X1_copyFrom σ (k + 1) (j + 1)) j 1)) j 2)) j 3)) k 4 ((up (up (up (s_X1_copyFrom σ (k + 1) (j + 1)) k 1 ((s_X1_copyFrom σ (k + 1) (j + 1)) j 1)) k 2 ((up (s_X1_copyFrom σ (k + 1) (j + 1)) k 1 ((s_X1_copyFrom σ (k + 1) (j + 1)) j 1)) j 2)) k 3 ((up (up (s_X1_copyFrom σ (k + 1) (j + 1)) k 1 ((s_X1_copyFrom σ (k + 1) (j + 1)) j 1)) k 2 ((up (s_X1_copyFrom σ (k + 1) (j + 1)) k 1 ((s_X1_copyFrom σ (k + 1) (j + 1)) j 1)) j 2)) j 3)) j 4)) k 5 ((up (up (up (up (s_X1_copyFrom σ (k + 1) (j + 1)) k 1 ((s_X1_copyFrom σ (k + 1) (j + 1)) j 1)) k 2 ((up (s_X1_copyFrom σ (k + 1) (j + 1)) k 1 ((s_X1_copyFrom σ (k + 1) (j + 1)) j 1)) j 2)) k 3 ((up (up (s_X1_copyFrom σ (k + 1) (j + 1)) k 1 ((s_X1_copyFrom σ (k + 1) (j + 1)) j 1)) k 2 ((up (s_X1_copyFrom σ (k + 1) (j + 1)) k 1 ((s_X1_copyFrom σ (k + 1) (j + 1)) j 1)) j 2)) j 3)) k 4 ((up (up (up (s_X1_copyFrom σ (k + 1) (j + 1)) k 1 ((s_X1_copyFrom σ (k + 1) (j + 1)) j 1)) k 2 ((up (s_X1_copyFrom σ (k + 1) (j + 1)) k 1 ((s_X1_copyFrom σ (k + 1) (j + 1)) j 1)) j 2)) k 3 ((up (up (s_X1_copyFrom σ (k + 1) (j + 1)) k 1 ((s_X1_copyFrom σ (k + 1) (j + 1)) j 1)) k 2 ((up (s_X1_copyFrom σ (k + 1) (j + 1)) k 1 ((s_X1_copyFrom σ (k + 1) (j + 1)) j 1)) j 2)) j 3)) j 4)) j 5)) j 6)) k 7 ((up (up (up (up (up (up (s_X1_copyFrom σ (k + 1) (j + 1)) k 1 ((s_X1_copyFrom σ (k + 1) (j + 1)) j 1)) k 2 ((up (s_X1_copyFrom σ (k + 1) (j + 1)) k 1 ((s_X1_copyFrom σ (k + 1) (j + 1)) j 1)) j 2)) k 3 ((up (up (s_X1_copyFrom σ (k + 1) (j + 1)) k 1 ((s_X1_copyFrom σ (k + 1) (j + 1)) j 1)) k 2 ((up (s_X1_copyFrom σ (k + 1) (j + 1)) k 1 ((s_X1_copyFrom σ (k + 1) (j + 1)) j 1)) j 2)) j 3)) k 4 ((up (up (up (s_X1_copyFrom σ (k + 1) (j + 1)) k 1 ((s_X1_copyFrom σ (k + 1) (j + 1)) j 1)) k 2 ((up (s_X1_copyFrom σ (k + 1) (j + 1)) k 1 ((s_X1_copyFrom σ (k + 1) (j + 1)) j 1)) j 2)) k 3 ((up (up (s_X1_copyFrom σ (k + 1) (j + 1)) k 1 ((s_X1_copyFrom σ (k + 1) (j + 1)) j 1)) k 2 ((up (s_X1_copyFrom σ (k + 1) (j + 1)) k 1 ((s_X1_copyFrom σ (k + 1) (j + 1)) j 1)) j 2)) j 3)) j 4)) k 5 ((up (up (up (up (s_X1_copyFrom σ (k + 1) (j + 1)) k 1 ((s_X1_copyFrom σ (k + 1) (j + 1)) j 1)) k 2 ((up (s_X1_copyFrom σ (k + 1) (j + 1)) k 1 ((s_X1_copyFrom σ (k + 1) (j + 1)) j 1)) j 2)) k 3 ((up (up (s_X1_copyFrom σ (k + 1) (j + 1)) k 1 ((s_X1_copyFrom σ (k + 1) (j + 1)) j 1)) k 2 ((up (s_X1_copyFrom σ (k + 1) (j + 1)) k 1 ((s_X1_copyFrom σ (k + 1) (j + 1)) j 1)) j 2)) j 3)) k 4 ((up (up (up (s_X1_copyFrom σ (k + 1) (j + 1)) k 1 ((s_X1_copyFrom σ (k + 1) (j + 1)) j 1)) k 2 ((up (s_X1_copyFrom σ (k + 1) (j + 1)) k 1 ((s_X1_copyFrom σ (k + 1) (j + 1)) j 1)) j 2)) k 3 ((up (up (s_X1_copyFrom σ (k + 1) (j + 1)) k 1 ((s_X1_copyFrom σ (k + 1) (j + 1)) j 1)) k 2 ((up (s_X1_copyFrom σ (k + 1) (j + 1)) k 1 ((s_X1_copyFrom σ (k + 1) (j + 1)) j 1)) j 2)) j 3)) j 4)) j 5)) k 6 ((up (up (up (up (up (s_X1_copyFrom σ (k + 1) (j + 1)) k 1 ((s_X1_copyFrom σ (k + 1) (j + 1)) j 1)) k 2 ((up (s_X1_copyFrom σ (k + 1) (j + 1)) k 1 ((s_X1_copyFrom σ (k + 1) (j + 1)) j 1)) j 2)) k 3 ((up (up (s_X1_copyFrom σ (k + 1) (j + 1)) k 1 ((s_X1_copyFrom σ (k + 1) (j + 1)) j 1)) k 2 ((up (s_X1_copyFrom σ (k + 1) (j + 1)) k 1 ((s_X1_copyFrom σ (k + 1) (j + 1)) j 1)) j 2)) j 3)) k 4 ((up (up (up (s_X1_copyFrom σ (k + 1) (j + 1)) k 1 ((s_X1_copyFrom σ (k + 1) (j + 1)) j 1)) k 2 ((up (s_X1_copyFrom σ (k + 1) (j + 1)) k 1 ((s_X1_copyFrom σ (k + 1) (j + 1)) j 1)) j 2)) k 3 ((up (up (s_X1_copyFrom σ (k + 1) (j + 1)) k 1 ((s_X1_copyFrom σ (k + 1) (j + 1)) j 1)) k 2 ((up (s_X1_copyFrom σ (k + 1) (j + 1)) k 1 ((s_X1_copyFrom σ (k + 1) (j + 1)) j 1)) j 2)) j 3)) j 4)) k 5 ((up (up (up (up (s_X1_copyFrom σ (k + 1) (j + 1)) k 1 ((s_X1_copyFrom σ (k + 1) (j + 1)) j 1)) k 2 ((up (s_X1_copyFrom σ (k + 1) (j + 1)) k 1 ((s_X1_copyFrom σ (k + 1) (j + 1)) j 1)) j 2)) k 3 ((up (up (s_X1_copyFrom σ (k + 1) (j + 1)) k 1 ((s_X1_copyFrom σ (k + 1) (j + 1)) j 1)) k 2 ((up (s_X1_copyFrom σ (k + 1) (j + 1)) k 1 ((s_X1_copyFrom σ (k + 1) (j + 1)) j 1)) j 2)) j 3)) k 4 ((up (up (up (s_X1_copyFrom σ (k + 1) (j + 1)) k 1 ((s_X1_copyFrom σ (k + 1) (j + 1)) j 1)) k 2 ((up (s_X1_copyFrom σ (k + 1) (j + 1)) k 1 ((s_X1_copyFrom σ (k + 1) (j + 1)) j 1)) j 2)) k 3 ((up (up (s_X1_copyFrom σ (k + 1) (j + 1)) k 1 ((s_X1_copyFrom σ (k + 1) (j + 1)) j 1)) k 2 ((up (s_X1_copyFrom σ (k + 1) (j + 1)) k 1 ((s_X1_copyFrom σ (k + 1) (j + 1)) j 1)) j 2)) j 3)) j 4)) j 5)) j 6)) j 7)) k 8 ((up (up (up (up (up (up (up (s_X1_copyFrom σ (k + 1) (j + 1)) k 1 ((s_X1_copyFrom σ (k + 1) (j + 1)) j 1)) k 2 ((up (s_X1_copyFrom σ (k + 1) (j + 1)) k 1 ((s_X1_copyFrom σ (k + 1) (j + 1)) j 1)) j 2)) k 3 ((up (up (s_X1_copyFrom σ (k + 1) (j + 1)) k 1 ((s_X1_copyFrom σ (k + 1) (j + 1)) j 1)) k 2 ((up (s_X1_copyFrom σ (k + 1) (j + 1)) k 1 ((s_X1_copyFrom σ (k + 1) (j + 1)) j 1)) j 2)) j 3)) k 4 ((up (up (up (s_X1_copyFrom σ (k + 1) (j + 1)) k 1 ((s_X1_copyFrom σ (k + 1) (j + 1)) j 1)) k 2 ((up (s_X1_copyFrom σ (k + 1) (j + 1)) k 1 ((s_X1_copyFrom σ (k + 1) (j + 1)) j 1)) j 2)) k 3 ((up (up (s_X1_copyFrom σ (k + 1) (j + 1)) k 1 ((s_X1_copyFrom σ (k + 1) (j + 1)) j 1)) k 2 ((up (s_X1_copyFrom σ (k + 1) (j + 1)) k 1 ((s_X1_copyFrom σ (k + 1) (j + 1)) j 1)) j 2)) j 3)) j 4)) k 5 ((up (up (up (up (s_X1_copyFrom σ (k + 1) (j + 1)) k 1 ((s_X1_copyFrom σ (k + 1) (j + 1)) j 1)) k 2 ((up (s_X1_copyFrom σ (k + 1) (j + 1)) k 1 ((s_X1_copyFrom σ (k + 1) (j + 1)) j 1)) j 2)) k 3 ((up (up (s_X1_copyFrom σ (k + 1) (j + 1)) k 1 ((s_X1_copyFrom σ (k + 1) (j + 1)) j 1)) k 2 ((up (s_X1_copyFrom σ (k + 1) (j + 1)) k 1 ((s_X1_copyFrom σ (k + 1) (j + 1)) j 1)) j 2)) j 3)) k 4 ((up (up (up (s_X1_copyFrom σ (k + 1) (j + 1)) k 1 ((s_X1_copyFrom σ (k + 1) (j + 1)) j 1)) k 2 ((up (s_X1_copyFrom σ (k + 1) (j + 1)) k 1 ((s_X1_copyFrom σ (k + 1) (j + 1)) j 1)) j 2)) k 3 ((up (up (s_X1_copyFrom σ (k + 1) (j + 1)) k 1 ((s_X1_copyFrom σ (k + 1) (j + 1)) j 1)) k 2 ((up (s_X1_copyFrom σ (k + 1) (j + 1)) k 1 ((s_X1_copyFrom σ (k + 1) (j + 1)) j 1)) j 2)) j 3)) j 4)) j 5)) k 6 ((up (up (up (up (up (s_X1_copyFrom σ (k + 1) (j + 1)) k 1 ((s_X1_copyFrom σ (k + 1) (j + 1)) j 1)) k 2 ((up (s_X1_copyFrom σ (k + 1) (j + 1)) k 1 ((s_X1_copyFrom σ (k + 1) (j + 1)) j 1)) j 2)) k 3 ((up (up (s_X1_copyFrom σ (k + 1) (j + 1)) k 1 ((s_X1_copyFrom σ (k + 1) (j + 1)) j 1)) k 2 ((up (s_X1_copyFrom σ (k + 1) (j + 1)) k 1 ((s_X1_copyFrom σ (k + 1) (j + 1)) j 1)) j 2)) j 3)) k 4 ((up (up (up (s_X1_copyFrom σ (k + 1) (j + 1)) k 1 ((s_X1_copyFrom σ (k + 1) (j + 1)) j 1)) k 2 ((up (s_X1_copyFrom σ (k + 1) (j + 1)) k 1 ((s_X1_copyFrom σ (k + 1) (j + 1)) j 1)) j 2)) k 3 ((up (up (s_X1_copyFrom σ (k + 1) (j + 1)) k 1 ((s_X1_copyFrom σ (k + 1) (j + 1)) j 1)) k 2 ((up (s_X1_copyFrom σ (k + 1) (j + 1)) k 1 ((s_X1_copyFrom σ (k + 1) (j + 1)) j 1)) j 2)) j 3)) j 4)) k 5 ((up (up (up (up (s_X1_copyFrom σ (k + 1) (j + 1)) k 1 ((s_X1_copyFrom σ (k + 1) (j + 1)) j 1)) k 2 ((up (s_X1_copyFrom σ (k + 1) (j + 1)) k 1 ((s_X1_copyFrom σ (k + 1) (j + 1)) j 1)) j 2)) k 3 ((up (up (s_X1_copyFrom σ (k + 1) (j + 1)) k 1 ((s_X1_copyFrom σ (k + 1) (j + 1)) j 1)) k 2 ((up (s_X1_copyFrom σ (k + 1) (j + 1)) k 1 ((s_X1_copyFrom σ (k + 1) (j + 1)) j 1)) j 2)) j 3)) k 4 ((up (up (up (s_X1_copyFrom σ (k + 1) (j + 1)) k 1 ((s_X1_copyFrom σ (k + 1) (j + 1)) j 1)) k 2 ((up (s_X1_copyFrom σ (k + 1) (j + 1)) k 1 ((s_X1_copyFrom σ (k + 1) (j + 1)) j 1)) j 2)) k 3 ((up (up (s_X1_copyFrom σ (k + 1) (j + 1)) k 1 ((s_X1_copyFrom σ (k + 1) (j + 1)) j 1)) k 2 ((up (s_X1_copyFrom σ (k + 1) (j + 1)) k 1 ((s_X1_copyFrom σ (k + 1) (j + 1)) j 1)) j 2)) j 3)) j 4)) j 5)) j 6)) k 7 ((up (up (up (up (up (up (s_X1_copyFrom σ (k + 1) (j + 1)) k 1 ((s_X1_copyFrom σ (k + 1) (j + 1)) j 1)) k 2 ((up (s_X1_copyFrom σ (k + 1) (j + 1)) k 1 ((s_X1_copyFrom σ (k + 1) (j + 1)) j 1)) j 2)) k 3 ((up (up (s_X1_copyFrom σ (k + 1) (j + 1)) k 1 ((s_X1_copyFrom σ (k + 1) (j + 1)) j 1)) k 2 ((up (s_X1_copyFrom σ (k + 1) (j + 1)) k 1 ((s_X1_copyFrom σ (k + 1) (j + 1)) j 1)) j 2)) j 3)) k 4 ((up (up (up (s_X1_copyFrom σ (k + 1) (j + 1)) k 1 ((s_X1_copyFrom σ (k + 1) (j + 1)) j 1)) k 2 ((up (s_X1_copyFrom σ (k + 1) (j + 1)) k 1 ((s_X1_copyFrom σ (k + 1) (j + 1)) j 1)) j 2)) k 3 ((up (up (s_X1_copyFrom σ (k + 1) (j + 1)) k 1 ((s_X1_copyFrom σ (k + 1) (j + 1)) j 1)) k 2 ((up (s_X1_copyFrom σ (k + 1) (j + 1)) k 1 ((s_X1_copyFrom σ (k + 1) (j + 1)) j 1)) j 2)) j 3)) j 4)) k 5 ((up (up (up (up (s_X1_copyFrom σ (k + 1) (j + 1)) k 1 ((s_X1_copyFrom σ (k + 1) (j + 1)) j 1)) k 2 ((up (s_X1_copyFrom σ (k + 1) (j + 1)) k 1 ((s_X1_copyFrom σ (k + 1) (j + 1)) j 1)) j 2)) k 3 ((up (up (s_X1_copyFrom σ (k + 1) (j + 1)) k 1 ((s_X1_copyFrom σ (k + 1) (j + 1)) j 1)) k 2 ((up (s_X1_copyFrom σ (k + 1) (j + 1)) k 1 ((s_X1_copyFrom σ (k + 1) (j + 1)) j 1)) j 2)) j 3)) k 4 ((up (up (up (s_X1_copyFrom σ (k + 1) (j + 1)) k 1 ((s_X1_copyFrom σ (k + 1) (j + 1)) j 1)) k 2 ((up (s_X1_copyFrom σ (k + 1) (j + 1)) k 1 ((s_X1_copyFrom σ (k + 1) (j + 1)) j 1)) j 2)) k 3 ((up (up (s_X1_copyFrom σ (k + 1) (j + 1)) k 1 ((s_X1_copyFrom σ (k + 1) (j + 1)) j 1)) k 2 ((up (s_X1_copyFrom σ (k + 1) (j + 1)) k 1 ((s_X1_copyFrom σ (k + 1) (j + 1)) j 1)) j 2)) j 3)) j 4)) j 5)) k 6 ((up (up (up (up (up (s_X1_copyFrom σ (k + 1) (j + 1)) k 1 ((s_X1_copyFrom σ (k + 1) (j + 1)) j 1)) k 2 ((up (s_X1_copyFrom σ (k + 1) (j + 1)) k 1 ((s_X1_copyFrom σ (k + 1) (j + 1)) j 1)) j 2)) k 3 ((up (up (s_X1_copyFrom σ (k + 1) (j + 1)) k 1 ((s_X1_copyFrom σ (k + 1) (j + 1)) j 1)) k 2 ((up (s_X1_copyFrom σ (k + 1) (j + 1)) k 1 ((s_X1_copyFrom σ (k + 1) (j + 1)) j 1)) j 2)) j 3)) k 4 ((up (up (up (s_X1_copyFrom σ (k + 1) (j + 1)) k 1 ((s_X1_copyFrom σ (k + 1) (j + 1)) j 1)) k 2 ((up (s_X1_copyFrom σ (k + 1) (j + 1)) k 1 ((s_X1_copyFrom σ (k + 1) (j + 1)) j 1)) j 2)) k 3 ((up (up (s_X1_copyFrom σ (k + 1) (j + 1)) k 1 ((s_X1_copyFrom σ (k + 1) (j + 1)) j 1)) k 2 ((up (s_X1_copyFrom σ (k + 1) (j + 1)) k 1 ((s_X1_copyFrom σ (k + 1) (j + 1)) j 1)) j 2)) j 3)) j 4)) k 5 ((up (up (up (up (s_X1_copyFrom σ (k + 1) (j + 1)) k 1 ((s_X1_copyFrom σ (k + 1) (j + 1)) j 1)) k 2 ((up (s_X1_copyFrom σ (k + 1) (j + 1)) k 1 ((s_X1_copyFrom σ (k + 1) (j + 1)) j 1)) j 2)) k 3 ((up (up (s_X1_copyFrom σ (k + 1) (j + 1)) k 1 ((s_X1_copyFrom σ (k + 1) (j + 1)) j 1)) k 2 ((up (s_X1_copyFrom σ (k + 1) (j + 1)) k 1 ((s_X1_copyFrom σ (k + 1) (j + 1)) j 1)) j 2)) j 3)) k 4 ((up (up (up (s_X1_copyFrom σ (k + 1) (j + 1)) k 1 ((s_X1_copyFrom σ (k + 1) (j + 1)) j 1)) k 2 ((up (s_X1_copyFrom σ (k + 1) (j + 1)) k 1 ((s_X1_copyFrom σ (k + 1) (j + 1)) j 1)) j 2)) k 3 ((up (up (s_X1_copyFrom σ (k + 1) (j + 1)) k 1 ((s_X1_copyFrom σ (k + 1) (j + 1)) j 1)) k 2 ((up (s_X1_copyFrom σ (k + 1) (j + 1)) k 1 ((s_X1_copyFrom σ (k + 1) (j + 1)) j 1)) j 2)) j 3)) j 4)) j 5)) j 6)) j 7)) j 8)) k 9 ((up (up (up (up (up (up (up (up (s_X1_copyFrom σ (k + 1) (j + 1)) k 1 ((s_X1_copyFrom σ (k + 1) (j + 1)) j 1)) k 2 ((up (s_X1_copyFrom σ (k + 1) (j + 1)) k 1 ((s_X1_copyFrom σ (k + 1) (j + 1)) j 1)) j 2)) k 3 ((up (up (s_X1_copyFrom σ (k + 1) (j + 1)) k 1 ((s_X1_copyFrom σ (k + 1) (j + 1)) j 1)) k 2 ((up (s_X1_copyFrom σ (k + 1) (j + 1)) k 1 ((s_X1_copyFrom σ (k + 1) (j + 1)) j 1)) j 2)) j 3)) k 4 ((up (up (up (s_X1_copyFrom σ (k + 1) (j + 1)) k 1 ((s_X1_copyFrom σ (k + 1) (j + 1)) j 1)) k 2 ((up (s_X1_copyFrom σ (k + 1) (j + 1)) k 1 ((s_X1_copyFrom σ (k + 1) (j + 1)) j 1)) j 2)) k 3 ((up (up (s_X1_copyFrom σ (k + 1) (j + 1)) k 1 ((s_X1_copyFrom σ (k + 1) (j + 1)) j 1)) k 2 ((up (s_X1_copyFrom σ (k + 1) (j + 1)) k 1 ((s_X1_copyFrom σ (k + 1) (j + 1)) j 1)) j 2)) j 3)) j 4)) k 5 ((up (up (up (up (s_X1_copyFrom σ (k + 1) (j + 1)) k 1 ((s_X1_copyFrom σ (k + 1) (j + 1)) j 1)) k 2 ((up (s_X1_copyFrom σ (k + 1) (j + 1)) k 1 ((s_X1_copyFrom σ (k + 1) (j + 1)) j 1)) j 2)) k 3 ((up (up (s_X1_copyFrom σ (k + 1) (j + 1)) k 1 ((s_X1_copyFrom σ (k + 1) (j + 1)) j 1)) k 2 ((up (s_X1_copyFrom σ (k + 1) (j + 1)) k 1 ((s_X1_copyFrom σ (k + 1) (j + 1)) j 1)) j 2)) j 3)) k 4 ((up (up (up (s_X1_copyFrom σ (k + 1) (j + 1)) k 1 ((s_X1_copyFrom σ (k + 1) (j + 1)) j 1)) k 2 ((up (s_X1_copyFrom σ (k + 1) (j + 1)) k 1 ((s_X1_copyFrom σ (k + 1) (j + 1)) j 1)) j 2)) k 3 ((up (up (s_X1_copyFrom σ (k + 1) (j + 1)) k 1 ((s_X1_copyFrom σ (k + 1) (j + 1)) j 1)) k 2 ((up (s_X1_copyFrom σ (k + 1) (j + 1)) k 1 ((s_X1_copyFrom σ (k + 1) (j + 1)) j 1)) j 2)) j 3)) j 4)) j 5)) k 6 ((up (up (up (up (up (s_X1_copyFrom σ (k + 1) (j + 1)) k 1 ((s_X1_copyFrom σ (k + 1) (j + 1)) j 1)) k 2 ((up (s_X1_copyFrom σ (k + 1) (j + 1)) k 1 ((s_X1_copyFrom σ (k + 1) (j + 1)) j 1)) j 2)) k 3 ((up (up (s_X1_copyFrom σ (k + 1) (j + 1)) k 1 ((s_X1_copyFrom σ (k + 1) (j + 1)) j 1)) k 2 ((up (s_X1_copyFrom σ (k + 1) (j + 1)) k 1 ((s_X1_copyFrom σ (k + 1) (j + 1)) j 1)) j 2)) j 3)) k 4 ((up (up (up (s_X1_copyFrom σ (k + 1) (j + 1)) k 1 ((s_X1_copyFrom σ (k + 1) (j + 1)) j 1)) k 2 ((up (s_X1_copyFrom σ (k + 1) (j + 1)) k 1 ((s_X1_copyFrom σ (k + 1) (j + 1)) j 1)) j 2)) k 3 ((up (up (s_X1_copyFrom σ (k + 1) (j + 1)) k 1 ((s_X1_copyFrom σ (k + 1) (j + 1)) j 1)) k 2 ((up (s_X1_copyFrom σ (k + 1) (j + 1)) k 1 ((s_X1_copyFrom σ (k + 1) (j + 1)) j 1)) j 2)) j 3)) j 4)) k 5 ((up (up (up (up (s_X1_copyFrom σ (k + 1) (j + 1)) k 1 ((s_X1_copyFrom σ (k + 1) (j + 1)) j 1)) k 2 ((up (s_X1_copyFrom σ (k + 1) (j + 1)) k 1 ((s_X1_copyFrom σ (k + 1) (j + 1)) j 1)) j 2)) k 3 ((up (up (s_X1_copyFrom σ (k + 1) (j + 1)) k 1 ((s_X1_copyFrom σ (k + 1) (j + 1)) j 1)) k 2 ((up (s_X1_copyFrom σ (k + 1) (j + 1)) k 1 ((s_X1_copyFrom σ (k + 1) (j + 1)) j 1)) j 2)) j 3)) k 4 ((up (up (up (s_X1_copyFrom σ (k + 1) (j + 1)) k 1 ((s_X1_copyFrom σ (k + 1) (j + 1)) j 1)) k 2 ((up (s_X1_copyFrom σ (k + 1) (j + 1)) k 1 ((s_X1_copyFrom σ (k + 1) (j + 1)) j 1)) j 2)) k 3 ((up (up (s_X1_copyFrom σ (k + 1) (j + 1)) k 1 ((s_X1_copyFrom σ (k + 1) (j + 1)) j 1)) k 2 ((up (s_X1_copyFrom σ (k + 1) (j + 1)) k 1 ((s_X1_copyFrom σ (k + 1) (j + 1)) j 1)) j 2)) j 3)) j 4)) j 5)) j 6)) k 7 ((up (up (up (up (up (up (s_X1_copyFrom σ (k + 1) (j + 1)) k 1 ((s_X1_copyFrom σ (k + 1) (j + 1)) j 1)) k 2 ((up (s_X1_copyFrom σ (k + 1) (j + 1)) k 1 ((s_X1_copyFrom σ (k + 1) (j + 1)) j 1)) j 2)) k 3 ((up (up (s_X1_copyFrom σ (k + 1) (j + 1)) k 1 ((s_X1_copyFrom σ (k + 1) (j + 1)) j 1)) k 2 ((up (s_X1_copyFrom σ (k + 1) (j + 1)) k 1 ((s_X1_copyFrom σ (k + 1) (j + 1)) j 1)) j 2)) j 3)) k 4 ((up (up (up (s_X1_copyFrom σ (k + 1) (j + 1)) k 1 ((s_X1_copyFrom σ (k + 1) (j + 1)) j 1)) k 2 ((up (s_X1_copyFrom σ (k + 1) (j + 1)) k 1 ((s_X1_copyFrom σ (k + 1) (j + 1)) j 1)) j 2)) k 3 ((up (up (s_X1_copyFrom σ (k + 1) (j + 1)) k 1 ((s_X1_copyFrom σ (k + 1) (j + 1)) j 1)) k 2 ((up (s_X1_copyFrom σ (k + 1) (j + 1)) k 1 ((s_X1_copyFrom σ (k + 1) (j + 1)) j 1)) j 2)) j 3)) j 4)) k 5 ((up (up (up (up (s_X1_copyFrom σ (k + 1) (j + 1)) k 1 ((s_X1_copyFrom σ (k + 1) (j + 1)) j 1)) k 2 ((up (s_X1_copyFrom σ (k + 1) (j + 1)) k 1 ((s_X1_copyFrom σ (k + 1) (j + 1)) j 1)) j 2)) k 3 ((up (up (s_X1_copyFrom σ (k + 1) (j + 1)) k 1 ((s_X1_copyFrom σ (k + 1) (j + 1)) j 1)) k 2 ((up (s_X1_copyFrom σ (k + 1) (j + 1)) k 1 ((s_X1_copyFrom σ (k + 1) (j + 1)) j 1)) j 2)) j 3)) k 4 ((up (up (up (s_X1_copyFrom σ (k + 1) (j + 1)) k 1 ((s_X1_copyFrom σ (k + 1) (j + 1)) j 1)) k 2 ((up (s_X1_copyFrom σ (k + 1) (j + 1)) k 1 ((s_X1_copyFrom σ (k + 1) (j + 1)) j 1)) j 2)) k 3 ((up (up (s_X1_copyFrom σ (k + 1) (j + 1)) k 1 ((s_X1_copyFrom σ (k + 1) (j + 1)) j 1)) k 2 ((up (s_X1_copyFrom σ (k + 1) (j + 1)) k 1 ((s_X1_copyFrom σ (k + 1) (j + 1)) j 1)) j 2)) j 3)) j 4)) j 5)) k 6 ((up (up (up (up (up (s_X1_copyFrom σ (k + 1) (j + 1)) k 1 ((s_X1_copyFrom σ (k + 1) (j + 1)) j 1)) k 2 ((up (s_X1_copyFrom σ (k + 1) (j + 1)) k 1 ((s_X1_copyFrom σ (k + 1) (j + 1)) j 1)) j 2)) k 3 ((up (up (s_X1_copyFrom σ (k + 1) (j + 1)) k 1 ((s_X1_copyFrom σ (k + 1) (j + 1)) j 1)) k 2 ((up (s_X1_copyFrom σ (k + 1) (j + 1)) k 1 ((s_X1_copyFrom σ (k + 1) (j + 1)) j 1)) j 2)) j 3)) k 4 ((up (up (up (s_X1_copyFrom σ (k + 1) (j + 1)) k 1 ((s_X1_copyFrom σ (k + 1) (j + 1)) j 1)) k 2 ((up (s_X1_copyFrom σ (k + 1) (j + 1)) k 1 ((s_X1_copyFrom σ (k + 1) (j + 1)) j 1)) j 2)) k 3 ((up (up (s_X1_copyFrom σ (k + 1) (j + 1)) k 1 ((s_X1_copyFrom σ (k + 1) (j + 1)) j 1)) k 2 ((up (s_X1_copyFrom σ (k + 1) (j + 1)) k 1 ((s_X1_copyFrom σ (k + 1) (j + 1)) j 1)) j 2)) j 3)) j 4)) k 5 ((up (up (up (up (s_X1_copyFrom σ (k + 1) (j + 1)) k 1 ((s_X1_copyFrom σ (k + 1) (j + 1)) j 1)) k 2 ((up (s_X1_copyFrom σ (k + 1) (j + 1)) k 1 ((s_X1_copyFrom σ (k + 1) (j + 1)) j 1)) j 2)) k 3 ((up (up (s_X1_copyFrom σ (k + 1) (j + 1)) k 1 ((s_X1_copyFrom σ (k + 1) (j + 1)) j 1)) k 2 ((up (s_X1_copyFrom σ (k + 1) (j + 1)) k 1 ((s_X1_copyFrom σ (k + 1) (j + 1)) j 1)) j 2)) j 3)) k 4 ((up (up (up (s_X1_copyFrom σ (k + 1) (j + 1)) k 1 ((s_X1_copyFrom σ (k + 1) (j + 1)) j 1)) k 2 ((up (s_X1_copyFrom σ (k + 1) (j + 1)) k 1 ((s_X1_copyFrom σ (k + 1) (j + 1)) j 1)) j 2)) k 3 ((up (up (s_X1_copyFrom σ (k + 1) (j + 1)) k 1 ((s_X1_copyFrom σ (k + 1) (j + 1)) j 1)) k 2 ((up (s_X1_copyFrom σ (k + 1) (j + 1)) k 1 ((s_X1_copyFrom σ (k + 1) (j + 1)) j 1)) j 2)) j 3)) j 4)) j 5)) j 6)) j 7)) k 8 ((up (up (up (up (up (up (up (s_X1_copyFrom σ (k + 1) (j + 1)) k 1 ((s_X1_copyFrom σ (k + 1) (j + 1)) j 1)) k 2 ((up (s_X1_copyFrom σ (k + 1) (j + 1)) k 1 ((s_X1_copyFrom σ (k + 1) (j + 1)) j 1)) j 2)) k 3 ((up (up (s_X1_copyFrom σ (k + 1) (j + 1)) k 1 ((s_X1_copyFrom σ (k + 1) (j + 1)) j 1)) k 2 ((up (s_X1_copyFrom σ (k + 1) (j + 1)) k 1 ((s_X1_copyFrom σ (k + 1) (j + 1)) j 1)) j 2)) j 3)) k 4 ((up (up (up (s_X1_copyFrom σ (k + 1) (j + 1)) k 1 ((s_X1_copyFrom σ (k + 1) (j + 1)) j 1)) k 2 ((up (s_X1_copyFrom σ (k + 1) (j + 1)) k 1 ((s_X1_copyFrom σ (k + 1) (j + 1)) j 1)) j 2)) k 3 ((up (up (s_X1_copyFrom σ (k + 1) (j + 1)) k 1 ((s_X1_copyFrom σ (k + 1) (j + 1)) j 1)) k 2 ((up (s_X1_copyFrom σ (k + 1) (j + 1)) k 1 ((s_X1_copyFrom σ (k + 1) (j + 1)) j 1)) j 2)) j 3)) j 4)) k 5 ((up (up (up (up (s_X1_copyFrom σ (k + 1) (j + 1)) k 1 ((s_X1_copyFrom σ (k + 1) (j + 1)) j 1)) k 2 ((up (s_X1_copyFrom σ (k + 1) (j + 1)) k 1 ((s_X1_copyFrom σ (k + 1) (j + 1)) j 1)) j 2)) k 3 ((up (up (s_X1_copyFrom σ (k + 1) (j + 1)) k 1 ((s_X1_copyFrom σ (k + 1) (j + 1)) j 1)) k 2 ((up (s_X1_copyFrom σ (k + 1) (j + 1)) k 1 ((s_X1_copyFrom σ (k + 1) (j + 1)) j 1)) j 2)) j 3)) k 4 ((up (up (up (s_X1_copyFrom σ (k + 1) (j + 1)) k 1 ((s_X1_copyFrom σ (k + 1) (j + 1)) j 1)) k 2 ((up (s_X1_copyFrom σ (k + 1) (j + 1)) k 1 ((s_X1_copyFrom σ (k + 1) (j + 1)) j 1)) j 2)) k 3 ((up (up (s_X1_copyFrom σ (k + 1) (j + 1)) k 1 ((s_X1_copyFrom σ (k + 1) (j + 1)) j 1)) k 2 ((up (s_X1_copyFrom σ (k + 1) (j + 1)) k 1 ((s_X1_copyFrom σ (k + 1) (j + 1)) j 1)) j 2)) j 3)) j 4)) j 5)) k 6 ((up (up (up (up (up (s_X1_copyFrom σ (k + 1) (j + 1)) k 1 ((s_X1_copyFrom σ (k + 1) (j + 1)) j 1)) k 2 ((up (s_X1_copyFrom σ (k + 1) (j + 1)) k 1 ((s_X1_copyFrom σ (k + 1) (j + 1)) j 1)) j 2)) k 3 ((up (up (s_X1_copyFrom σ (k + 1) (j + 1)) k 1 ((s_X1_copyFrom σ (k + 1) (j + 1)) j 1)) k 2 ((up (s_X1_copyFrom σ (k + 1) (j + 1)) k 1 ((s_X1_copyFrom σ (k + 1) (j + 1)) j 1)) j 2)) j 3)) k 4 ((up (up (up (s_X1_copyFrom σ (k + 1) (j + 1)) k 1 ((s_X1_copyFrom σ (k + 1) (j + 1)) j 1)) k 2 ((up (s_X1_copyFrom σ (k + 1) (j + 1)) k 1 ((s_X1_copyFrom σ (k + 1) (j + 1)) j 1)) j 2)) k 3 ((up (up (s_X1_copyFrom σ (k + 1) (j + 1)) k 1 ((s_X1_copyFrom σ (k + 1) (j + 1)) j 1)) k 2 ((up (s_X1_copyFrom σ (k + 1) (j + 1)) k 1 ((s_X1_copyFrom σ (k + 1) (j + 1)) j 1)) j 2)) j 3)) j 4)) k 5 ((up (up (up (up (s_X1_copyFrom σ (k + 1) (j + 1)) k 1 ((s_X1_copyFrom σ (k + 1) (j + 1)) j 1)) k 2 ((up (s_X1_copyFrom σ (k + 1) (j + 1)) k 1 ((s_X1_copyFrom σ (k + 1) (j + 1)) j 1)) j 2)) k 3 ((up (up (s_X1_copyFrom σ (k + 1) (j + 1)) k 1 ((s_X1_copyFrom σ (k + 1) (j + 1)) j 1)) k 2 ((up (s_X1_copyFrom σ (k + 1) (j + 1)) k 1 ((s_X1_copyFrom σ (k + 1) (j + 1)) j 1)) j 2)) j 3)) k 4 ((up (up (up (s_X1_copyFrom σ (k + 1) (j + 1)) k 1 ((s_X1_copyFrom σ (k + 1) (j + 1)) j 1)) k 2 ((up (s_X1_copyFrom σ (k + 1) (j + 1)) k 1 ((s_X1_copyFrom σ (k + 1) (j + 1)) j 1)) j 2)) k 3 ((up (up (s_X1_copyFrom σ (k + 1) (j + 1)) k 1 ((s_X1_copyFrom σ (k + 1) (j + 1)) j 1)) k 2 ((up (s_X1_copyFrom σ (k + 1) (j + 1)) k 1 ((s_X1_copyFrom σ (k + 1) (j + 1)) j 1)) j 2)) j 3)) j 4)) j 5)) j 6)) k 7 ((up (up (up (up (up (up (s_X1_copyFrom σ (k + 1) (j + 1)) k 1 ((s_X1_copyFrom σ (k + 1) (j + 1)) j 1)) k 2 ((up (s_X1_copyFrom σ (k + 1) (j + 1)) k 1 ((s_X1_copyFrom σ (k + 1) (j + 1)) j 1)) j 2)) k 3 ((up (up (s_X1_copyFrom σ (k + 1) (j + 1)) k 1 ((s_X1_copyFrom σ (k + 1) (j + 1)) j 1)) k 2 ((up (s_X1_copyFrom σ (k + 1) (j + 1)) k 1 ((s_X1_copyFrom σ (k + 1) (j + 1)) j 1)) j 2)) j 3)) k 4 ((up (up (up (s_X1_copyFrom σ (k + 1) (j + 1)) k 1 ((s_X1_copyFrom σ (k + 1) (j + 1)) j 1)) k 2 ((up (s_X1_copyFrom σ (k + 1) (j + 1)) k 1 ((s_X1_copyFrom σ (k + 1) (j + 1)) j 1)) j 2)) k 3 ((up (up (s_X1_copyFrom σ (k + 1) (j + 1)) k 1 ((s_X1_copyFrom σ (k + 1) (j + 1)) j 1)) k 2 ((up (s_X1_copyFrom σ (k + 1) (j + 1)) k 1 ((s_X1_copyFrom σ (k + 1) (j + 1)) j 1)) j 2)) j 3)) j 4)) k 5 ((up (up (up (up (s_X1_copyFrom σ (k + 1) (j + 1)) k 1 ((s_X1_copyFrom σ (k + 1) (j + 1)) j 1)) k 2 ((up (s_X1_copyFrom σ (k + 1) (j + 1)) k 1 ((s_X1_copyFrom σ (k + 1) (j + 1)) j 1)) j 2)) k 3 ((up (up (s_X1_copyFrom σ (k + 1) (j + 1)) k 1 ((s_X1_copyFrom σ (k + 1) (j + 1)) j 1)) k 2 ((up (s_X1_copyFrom σ (k + 1) (j + 1)) k 1 ((s_X1_copyFrom σ (k + 1) (j + 1)) j 1)) j 2)) j 3)) k 4 ((up (up (up (s_X1_copyFrom σ (k + 1) (j + 1)) k 1 ((s_X1_copyFrom σ (k + 1) (j + 1)) j 1)) k 2 ((up (s_X1_copyFrom σ (k + 1) (j + 1)) k 1 ((s_X1_copyFrom σ (k + 1) (j + 1)) j 1)) j 2)) k 3 ((up (up (s_X1_copyFrom σ (k + 1) (j + 1)) k 1 ((s_X1_copyFrom σ (k + 1) (j + 1)) j 1)) k 2 ((up (s_X1_copyFrom σ (k + 1) (j + 1)) k 1 ((s_X1_copyFrom σ (k + 1) (j + 1)) j 1)) j 2)) j 3)) j 4)) j 5)) k 6 ((up (up (up (up (up (s_X1_copyFrom σ (k + 1) (j + 1)) k 1 ((s_X1_copyFrom σ (k + 1) (j + 1)) j 1)) k 2 ((up (s_X1_copyFrom σ (k + 1) (j + 1)) k 1 ((s_X1_copyFrom σ (k + 1) (j + 1)) j 1)) j 2)) k 3 ((up (up (s_X1_copyFrom σ (k + 1) (j + 1)) k 1 ((s_X1_copyFrom σ (k + 1) (j + 1)) j 1)) k 2 ((up (s_X1_copyFrom σ (k + 1) (j + 1)) k 1 ((s_X1_copyFrom σ (k + 1) (j + 1)) j 1)) j 2)) j 3)) k 4 ((up (up (up (s_X1_copyFrom σ (k + 1) (j + 1)) k 1 ((s_X1_copyFrom σ (k + 1) (j + 1)) j 1)) k 2 ((up (s_X1_copyFrom σ (k + 1) (j + 1)) k 1 ((s_X1_copyFrom σ (k + 1) (j + 1)) j 1)) j 2)) k 3 ((up (up (s_X1_copyFrom σ (k + 1) (j + 1)) k 1 ((s_X1_copyFrom σ (k + 1) (j + 1)) j 1)) k 2 ((up (s_X1_copyFrom σ (k + 1) (j + 1)) k 1 ((s_X1_copyFrom σ (k + 1) (j + 1)) j 1)) j 2)) j 3)) j 4)) k 5 ((up (up (up (up (s_X1_copyFrom σ (k + 1) (j + 1)) k 1 ((s_X1_copyFrom σ (k + 1) (j + 1)) j 1)) k 2 ((up (s_X1_copyFrom σ (k + 1) (j + 1)) k 1 ((s_X1_copyFrom σ (k + 1) (j + 1)) j 1)) j 2)) k 3 ((up (up (s_X1_copyFrom σ (k + 1) (j + 1)) k 1 ((s_X1_copyFrom σ (k + 1) (j + 1)) j 1)) k 2 ((up (s_X1_copyFrom σ (k + 1) (j + 1)) k 1 ((s_X1_copyFrom σ (k + 1) (j + 1)) j 1)) j 2)) j 3)) k 4 ((up (up (up (s_X1_copyFrom σ (k + 1) (j + 1)) k 1 ((s_X1_copyFrom σ (k + 1) (j + 1)) j 1)) k 2 ((up (s_X1_copyFrom σ (k + 1) (j + 1)) k 1 ((s_X1_copyFrom σ (k + 1) (j + 1)) j 1)) j 2)) k 3 ((up (up (s_X1_copyFrom σ (k + 1) (j + 1)) k 1 ((s_X1_copyFrom σ (k + 1) (j + 1)) j 1)) k 2 ((up (s_X1_copyFrom σ (k + 1) (j + 1)) k 1 ((s_X1_copyFrom σ (k + 1) (j + 1)) j 1)) j 2)) j 3)) j 4)) j 5)) j 6)) j 7)) j 8)) j 9)) j 10)) j 11)
set_option maxHeartbeats 4000000 in
set_option maxRecDepth 100000 in
theorem k_X4_copyFrom (l : Launch) (D : va_G) (cy : Nat → ClassId) (z : Nat) (o : Int64) (d : UInt64) (σ τ : Sg) {k : Nat} (hk : kd k = 4) (j : Nat) (hk_j : kd j = 4) : KV l yX4_copyFrom cX4_copyFrom 2 rm_X4_copyFrom D cy z [.ref (z + k), .ref (z + j)] o d σ τ (s_X4_copyFrom σ k j) τ := by
  refine met_of RX4 (plainFor_of_name (by decide)) rfl (Nat.le_of_ble_eq_true rfl) ?_
  intro p e s m args below meth c C hP hS ls hl
  obtain ⟨hx, hb, hr, hml, hown, hW, hlocks, hAm⟩ := id C
  have hl : lv_has ls 2 [(0, .ref (z + k)), (1, .ref (z + j))] := hl
  refine lv_aload_n hx hb dX4_copyFrom_0 rfl (lv_at hl 0 rfl) ?_
  refine gf_X4_12 C hP hk dX4_copyFrom_1 ?_
  refine lv_aload_n hx hb dX4_copyFrom_4 rfl (lv_at hl 1 rfl) ?_
  refine gf_X4_12 C hP hk_j dX4_copyFrom_5 ?_
  refine thn_V (run_V (As := [.ref (z + (j + 1))]) (rest := []) C (k_X1_copyFrom l D cy z o d σ τ (kd4_1 hk) (j + 1) (kd4_1 hk_j)) hP hS cw_X1_copyFrom (mA1 (i := 227) rfl rfl) (kd4_1 hk) ⟨rfl, rfl⟩ ⟨Nat.le_of_ble_eq_true rfl, Nat.le_of_ble_eq_true rfl⟩ rfl (Nat.le_of_ble_eq_true rfl) hl.1 ⟨Nat.zero_le _, Nat.zero_le _⟩ dX4_copyFrom_8) hS (fun H locs hP hS => ?_)
  refine lv_aload_n hx hb dX4_copyFrom_11 rfl (lv_at hl 0 rfl) ?_
  refine lv_aload_n hx hb dX4_copyFrom_12 rfl (lv_at hl 1 rfl) ?_
  refine gf_X4_18 C hP hk_j dX4_copyFrom_13 ?_
  refine pf_X4_18 C hP hS hk dX4_copyFrom_16 (fun H locs hP hS => ?_)
  refine lv_aload_n hx hb dX4_copyFrom_19 rfl (lv_at hl 0 rfl) ?_
  refine lv_aload_n hx hb dX4_copyFrom_20 rfl (lv_at hl 1 rfl) ?_
  refine gf_X4_77 C hP hk_j dX4_copyFrom_21 ?_
  refine pf_X4_77 C hP hS hk dX4_copyFrom_24 (fun H locs hP hS => ?_)
  refine lv_aload_n hx hb dX4_copyFrom_27 rfl (lv_at hl 0 rfl) ?_
  refine lv_aload_n hx hb dX4_copyFrom_28 rfl (lv_at hl 1 rfl) ?_
  refine gf_X4_26 C hP hk_j dX4_copyFrom_29 ?_
  refine pf_X4_26 C hP hS hk dX4_copyFrom_32 (fun H locs hP hS => ?_)
  refine lv_aload_n hx hb dX4_copyFrom_35 rfl (lv_at hl 0 rfl) ?_
  refine lv_aload_n hx hb dX4_copyFrom_36 rfl (lv_at hl 1 rfl) ?_
  refine gf_X4_80 C hP hk_j dX4_copyFrom_37 ?_
  refine pf_X4_80 C hP hS hk dX4_copyFrom_40 (fun H locs hP hS => ?_)
  refine lv_aload_n hx hb dX4_copyFrom_43 rfl (lv_at hl 0 rfl) ?_
  refine lv_aload_n hx hb dX4_copyFrom_44 rfl (lv_at hl 1 rfl) ?_
  refine gf_X4_83 C hP hk_j dX4_copyFrom_45 ?_
  refine pf_X4_83 C hP hS hk dX4_copyFrom_48 (fun H locs hP hS => ?_)
  refine lv_aload_n hx hb dX4_copyFrom_51 rfl (lv_at hl 0 rfl) ?_
  refine lv_aload_n hx hb dX4_copyFrom_52 rfl (lv_at hl 1 rfl) ?_
  refine gf_X4_86 C hP hk_j dX4_copyFrom_53 ?_
  refine pf_X4_86 C hP hS hk dX4_copyFrom_56 (fun H locs hP hS => ?_)
  refine lv_aload_n hx hb dX4_copyFrom_59 rfl (lv_at hl 0 rfl) ?_
  refine lv_aload_n hx hb dX4_copyFrom_60 rfl (lv_at hl 1 rfl) ?_
  refine gf_X4_99 C hP hk_j dX4_copyFrom_61 ?_
  refine pf_X4_99 C hP hS hk dX4_copyFrom_64 (fun H locs hP hS => ?_)
  refine lv_aload_n hx hb dX4_copyFrom_67 rfl (lv_at hl 0 rfl) ?_
  refine lv_aload_n hx hb dX4_copyFrom_68 rfl (lv_at hl 1 rfl) ?_
  refine gf_X4_39 C hP hk_j dX4_copyFrom_69 ?_
  refine pf_X4_39 C hP hS hk dX4_copyFrom_72 (fun H locs hP hS => ?_)
  refine lv_aload_n hx hb dX4_copyFrom_75 rfl (lv_at hl 0 rfl) ?_
  refine lv_aload_n hx hb dX4_copyFrom_76 rfl (lv_at hl 1 rfl) ?_
  refine gf_X4_102 C hP hk_j dX4_copyFrom_77 ?_
  refine pf_X4_102 C hP hS hk dX4_copyFrom_80 (fun H locs hP hS => ?_)
  refine lv_aload_n hx hb dX4_copyFrom_83 rfl (lv_at hl 0 rfl) ?_
  refine lv_aload_n hx hb dX4_copyFrom_84 rfl (lv_at hl 1 rfl) ?_
  refine gf_X4_36 C hP hk_j dX4_copyFrom_85 ?_
  refine pf_X4_36 C hP hS hk dX4_copyFrom_88 (fun H locs hP hS => ?_)
  refine lv_aload_n hx hb dX4_copyFrom_91 rfl (lv_at hl 0 rfl) ?_
  refine lv_aload_n hx hb dX4_copyFrom_92 rfl (lv_at hl 1 rfl) ?_
  refine gf_X4_32 C hP hk_j dX4_copyFrom_93 ?_
  refine pf_X4_32 C hP hS hk dX4_copyFrom_96 (fun H locs hP hS => ?_)
  exact ret_V C hP hS rfl rfl dX4_copyFrom_99

theorem cw_X0_copyFrom : cwVt yX0_copyFrom cX0_copyFrom 2 none 0 1 := ⟨(mA1 (i := 220) rfl rfl), (mA1 (i := 221) rfl rfl), (mA1 (i := 2) rfl rfl), (mA1 (i := 222) rfl rfl), by decide +kernel, ⟨_, rfl, rfl⟩, by decide⟩
abbrev rm_X0_copyFrom : Room := { frames := 2, cells := 0, slots := 0, locals := 43 }
def s_X0_copyFrom (σ : Sg) (k : Nat) (j : Nat) : Sg :=
  up (up (s_X4_copyFrom (s_X4_copyFrom (s_X4_copyFrom (s_X4_copyFrom σ (k + 1) (j + 1)) (k + 4) (j + 4)) (k + 7) (j + 7)) (k + 10) (j + 10)) k 4 ((s_X4_copyFrom (s_X4_copyFrom (s_X4_copyFrom (s_X4_copyFrom σ (k + 1) (j + 1)) (k + 4) (j + 4)) (k + 7) (j + 7)) (k + 10) (j + 10)) j 4)) k 5 ((up (s_X4_copyFrom (s_X4_copyFrom (s_X4_copyFrom (s_X4_copyFrom σ (k + 1) (j + 1)) (k + 4) (j + 4)) (k + 7) (j + 7)) (k + 10) (j + 10)) k 4 ((s_X4_copyFrom (s_X4_copyFrom (s_X4_copyFrom (s_X4_copyFrom σ (k + 1) (j + 1)) (k + 4) (j + 4)) (k + 7) (j + 7)) (k + 10) (j + 10)) j 4)) j 5)
set_option maxHeartbeats 4000000 in
set_option maxRecDepth 100000 in
theorem k_X0_copyFrom (l : Launch) (D : va_G) (cy : Nat → ClassId) (z : Nat) (o : Int64) (d : UInt64) (σ τ : Sg) {k : Nat} (hk : kd k = 0) (j : Nat) (hk_j : kd j = 0) : KV l yX0_copyFrom cX0_copyFrom 2 rm_X0_copyFrom D cy z [.ref (z + k), .ref (z + j)] o d σ τ (s_X0_copyFrom σ k j) τ := by
  refine met_of RX0 (plainFor_of_name (by decide)) rfl (Nat.le_of_ble_eq_true rfl) ?_
  intro p e s m args below meth c C hP hS ls hl
  obtain ⟨hx, hb, hr, hml, hown, hW, hlocks, hAm⟩ := id C
  have hl : lv_has ls 2 [(0, .ref (z + k)), (1, .ref (z + j))] := hl
  refine lv_aload_n hx hb dX0_copyFrom_0 rfl (lv_at hl 0 rfl) ?_
  refine gf_X0_12 C hP hk dX0_copyFrom_1 ?_
  refine lv_aload_n hx hb dX0_copyFrom_4 rfl (lv_at hl 1 rfl) ?_
  refine gf_X0_12 C hP hk_j dX0_copyFrom_5 ?_
  refine thn_V (run_V (As := [.ref (z + (j + 1))]) (rest := []) C (k_X4_copyFrom l D cy z o d σ τ (kd0_1 hk) (j + 1) (kd0_1 hk_j)) hP hS cw_X4_copyFrom (mA1 (i := 223) rfl rfl) (kd0_1 hk) ⟨rfl, rfl⟩ ⟨Nat.le_of_ble_eq_true rfl, Nat.le_of_ble_eq_true rfl⟩ rfl (Nat.le_of_ble_eq_true rfl) hl.1 ⟨Nat.zero_le _, Nat.zero_le _⟩ dX0_copyFrom_8) hS (fun H locs hP hS => ?_)
  refine lv_aload_n hx hb dX0_copyFrom_11 rfl (lv_at hl 0 rfl) ?_
  refine gf_X0_18 C hP hk dX0_copyFrom_12 ?_
  refine lv_aload_n hx hb dX0_copyFrom_15 rfl (lv_at hl 1 rfl) ?_
  refine gf_X0_18 C hP hk_j dX0_copyFrom_16 ?_
  refine thn_V (run_V (As := [.ref (z + (j + 4))]) (rest := []) C (k_X4_copyFrom l D cy z o d (s_X4_copyFrom σ (k + 1) (j + 1)) τ (kd0_4 hk) (j + 4) (kd0_4 hk_j)) hP hS cw_X4_copyFrom (mA1 (i := 223) rfl rfl) (kd0_4 hk) ⟨rfl, rfl⟩ ⟨Nat.le_of_ble_eq_true rfl, Nat.le_of_ble_eq_true rfl⟩ rfl (Nat.le_of_ble_eq_true rfl) hl.1 ⟨Nat.zero_le _, Nat.zero_le _⟩ dX0_copyFrom_19) hS (fun H locs hP hS => ?_)
  refine lv_aload_n hx hb dX0_copyFrom_22 rfl (lv_at hl 0 rfl) ?_
  refine gf_X0_21 C hP hk dX0_copyFrom_23 ?_
  refine lv_aload_n hx hb dX0_copyFrom_26 rfl (lv_at hl 1 rfl) ?_
  refine gf_X0_21 C hP hk_j dX0_copyFrom_27 ?_
  refine thn_V (run_V (As := [.ref (z + (j + 7))]) (rest := []) C (k_X4_copyFrom l D cy z o d (s_X4_copyFrom (s_X4_copyFrom σ (k + 1) (j + 1)) (k + 4) (j + 4)) τ (kd0_7 hk) (j + 7) (kd0_7 hk_j)) hP hS cw_X4_copyFrom (mA1 (i := 223) rfl rfl) (kd0_7 hk) ⟨rfl, rfl⟩ ⟨Nat.le_of_ble_eq_true rfl, Nat.le_of_ble_eq_true rfl⟩ rfl (Nat.le_of_ble_eq_true rfl) hl.1 ⟨Nat.zero_le _, Nat.zero_le _⟩ dX0_copyFrom_30) hS (fun H locs hP hS => ?_)
  refine lv_aload_n hx hb dX0_copyFrom_33 rfl (lv_at hl 0 rfl) ?_
  refine gf_X0_24 C hP hk dX0_copyFrom_34 ?_
  refine lv_aload_n hx hb dX0_copyFrom_37 rfl (lv_at hl 1 rfl) ?_
  refine gf_X0_24 C hP hk_j dX0_copyFrom_38 ?_
  refine thn_V (run_V (As := [.ref (z + (j + 10))]) (rest := []) C (k_X4_copyFrom l D cy z o d (s_X4_copyFrom (s_X4_copyFrom (s_X4_copyFrom σ (k + 1) (j + 1)) (k + 4) (j + 4)) (k + 7) (j + 7)) τ (kd0_10 hk) (j + 10) (kd0_10 hk_j)) hP hS cw_X4_copyFrom (mA1 (i := 223) rfl rfl) (kd0_10 hk) ⟨rfl, rfl⟩ ⟨Nat.le_of_ble_eq_true rfl, Nat.le_of_ble_eq_true rfl⟩ rfl (Nat.le_of_ble_eq_true rfl) hl.1 ⟨Nat.zero_le _, Nat.zero_le _⟩ dX0_copyFrom_41) hS (fun H locs hP hS => ?_)
  refine lv_aload_n hx hb dX0_copyFrom_44 rfl (lv_at hl 0 rfl) ?_
  refine lv_aload_n hx hb dX0_copyFrom_45 rfl (lv_at hl 1 rfl) ?_
  refine gf_X0_27 C hP hk_j dX0_copyFrom_46 ?_
  refine pf_X0_27 C hP hS hk dX0_copyFrom_49 (fun H locs hP hS => ?_)
  refine lv_aload_n hx hb dX0_copyFrom_52 rfl (lv_at hl 0 rfl) ?_
  refine lv_aload_n hx hb dX0_copyFrom_53 rfl (lv_at hl 1 rfl) ?_
  refine gf_X0_31 C hP hk_j dX0_copyFrom_54 ?_
  refine pf_X0_31 C hP hS hk dX0_copyFrom_57 (fun H locs hP hS => ?_)
  exact ret_V C hP hS rfl rfl dX0_copyFrom_60

theorem cw_X3_keep : cwVt yX3_keep cX3_keep 2 none 3 1 := ⟨(mA2 (i := 156) rfl rfl), (mA2 (i := 157) rfl rfl), (mA1 (i := 5) rfl rfl), (mA2 (i := 158) rfl rfl), by decide +kernel, ⟨_, rfl, rfl⟩, by decide⟩
abbrev rm_X3_keep : Room := { frames := 3, cells := 0, slots := 0, locals := 64 }
def s_X3_keep (σ : Sg) (k : Nat) (j : Nat) : Sg :=
  if 4 ≤ (σ k 5) then
    s_X0_copyFrom (up σ k 4 (((σ k 4) + 1) - ((σ k 4) + 1) / 4 * 4)) (f_X3_latest (up σ k 4 (((σ k 4) + 1) - ((σ k 4) + 1) / 4 * 4)) k) j
  else
    s_X0_copyFrom (up σ k 5 ((σ k 5) + 1)) (f_X3_latest (up σ k 5 ((σ k 5) + 1)) k) j
set_option maxHeartbeats 4000000 in
set_option maxRecDepth 100000 in
theorem k_X3_keep (l : Launch) (D : va_G) (cy : Nat → ClassId) (z : Nat) (o : Int64) (d : UInt64) (σ τ : Sg) {k : Nat} (hk : kd k = 3) (j : Nat) (hk_j : kd j = 0) : KV l yX3_keep cX3_keep 2 rm_X3_keep D cy z [.ref (z + k), .ref (z + j)] o d σ τ (s_X3_keep σ k j) τ := by
  refine met_of RX3 (plainFor_of_name (by decide)) rfl (Nat.le_of_ble_eq_true rfl) ?_
  intro p e s m args below meth c C hP hS ls hl
  obtain ⟨hx, hb, hr, hml, hown, hW, hlocks, hAm⟩ := id C
  have hl : lv_has ls 2 [(0, .ref (z + k)), (1, .ref (z + j))] := hl
  refine lv_aload_n hx hb dX3_keep_0 rfl (lv_at hl 0 rfl) ?_
  refine gf_X3_27 C hP hk dX3_keep_1 ?_
  refine lv_iconst (v := 4) hx hb dX3_keep_4 (by decide) ?_
  refine lv_icmp_ge (tgt := 21) hx hb dX3_keep_5 (by decide) (fun c_5 => ?_) (fun c_5 => ?_)
  · refine lv_aload_n hx hb dX3_keep_21 rfl (lv_at hl 0 rfl) ?_
    refine lv_aload_n hx hb dX3_keep_22 rfl (lv_at hl 0 rfl) ?_
    refine gf_X3_31 C hP hk dX3_keep_23 ?_
    refine lv_iconst (v := 1) hx hb dX3_keep_26 (by decide) ?_
    refine lv_iadd hx hb dX3_keep_27 ?_
    refine lv_iconst (v := 4) hx hb dX3_keep_28 (by decide) ?_
    refine lv_irem hx hb dX3_keep_29 (by decide) ?_
    refine pf_X3_31 C hP hS hk dX3_keep_30 (fun H locs hP hS => ?_)
    refine lv_aload_n hx hb dX3_keep_33 rfl (lv_at hl 0 rfl) ?_
    refine thn_R (run_V (As := []) (rest := []) C (k_X3_latest l D cy z o d (up σ k 4 (((σ k 4) + 1) - ((σ k 4) + 1) / 4 * 4)) τ hk) hP hS cw_X3_latest (mA2 (i := 159) rfl rfl) hk ⟨rfl, rfl⟩ ⟨Nat.le_of_ble_eq_true rfl, Nat.le_of_ble_eq_true rfl⟩ rfl (Nat.le_of_ble_eq_true rfl) hl.1 ⟨Nat.zero_le _, Nat.zero_le _⟩ dX3_keep_34) hS (fun H locs hP hS => ?_)
    refine lv_aload_n hx hb dX3_keep_37 rfl (lv_at hl 1 rfl) ?_
    refine thn_V (run_V (As := [.ref (z + j)]) (rest := []) C (k_X0_copyFrom l D cy z o d (up σ k 4 (((σ k 4) + 1) - ((σ k 4) + 1) / 4 * 4)) τ (kr_X3_latest (up σ k 4 (((σ k 4) + 1) - ((σ k 4) + 1) / 4 * 4)) hk) j hk_j) hP hS cw_X0_copyFrom (mA2 (i := 163) rfl rfl) (kr_X3_latest (up σ k 4 (((σ k 4) + 1) - ((σ k 4) + 1) / 4 * 4)) hk) ⟨rfl, rfl⟩ ⟨Nat.le_of_ble_eq_true rfl, Nat.le_of_ble_eq_true rfl⟩ rfl (Nat.le_of_ble_eq_true rfl) hl.1 ⟨Nat.zero_le _, Nat.zero_le _⟩ dX3_keep_38) hS (fun H locs hP hS => ?_)
    exact ret_V C hP hS (by unfold s_X3_keep; rw [if_pos c_5]) rfl dX3_keep_41
  · refine lv_aload_n hx hb dX3_keep_8 rfl (lv_at hl 0 rfl) ?_
    refine lv_dup hx hb dX3_keep_9 rfl ?_
    refine gf_X3_27 C hP hk dX3_keep_10 ?_
    refine lv_iconst (v := 1) hx hb dX3_keep_13 (by decide) ?_
    refine lv_iadd hx hb dX3_keep_14 ?_
    refine pf_X3_27 C hP hS hk dX3_keep_15 (fun H locs hP hS => ?_)
    refine lv_goto (tgt := 33) hx hb dX3_keep_18 (by decide) ?_
    refine lv_aload_n hx hb dX3_keep_33 rfl (lv_at hl 0 rfl) ?_
    refine thn_R (run_V (As := []) (rest := []) C (k_X3_latest l D cy z o d (up σ k 5 ((σ k 5) + 1)) τ hk) hP hS cw_X3_latest (mA2 (i := 159) rfl rfl) hk ⟨rfl, rfl⟩ ⟨Nat.le_of_ble_eq_true rfl, Nat.le_of_ble_eq_true rfl⟩ rfl (Nat.le_of_ble_eq_true rfl) hl.1 ⟨Nat.zero_le _, Nat.zero_le _⟩ dX3_keep_34) hS (fun H locs hP hS => ?_)
    refine lv_aload_n hx hb dX3_keep_37 rfl (lv_at hl 1 rfl) ?_
    refine thn_V (run_V (As := [.ref (z + j)]) (rest := []) C (k_X0_copyFrom l D cy z o d (up σ k 5 ((σ k 5) + 1)) τ (kr_X3_latest (up σ k 5 ((σ k 5) + 1)) hk) j hk_j) hP hS cw_X0_copyFrom (mA2 (i := 163) rfl rfl) (kr_X3_latest (up σ k 5 ((σ k 5) + 1)) hk) ⟨rfl, rfl⟩ ⟨Nat.le_of_ble_eq_true rfl, Nat.le_of_ble_eq_true rfl⟩ rfl (Nat.le_of_ble_eq_true rfl) hl.1 ⟨Nat.zero_le _, Nat.zero_le _⟩ dX3_keep_38) hS (fun H locs hP hS => ?_)
    exact ret_V C hP hS (by unfold s_X3_keep; rw [if_neg c_5]) rfl dX3_keep_41

theorem cw_X3_giveBackLatest : cwVt yX3_giveBackLatest cX3_giveBackLatest 2 none 3 1 := ⟨(mA3 (i := 104) rfl rfl), (mA3 (i := 105) rfl rfl), (mA1 (i := 5) rfl rfl), (mA3 (i := 106) rfl rfl), by decide +kernel, ⟨_, rfl, rfl⟩, by decide⟩
abbrev rm_X3_giveBackLatest : Room := { frames := 3, cells := 0, slots := 0, locals := 64 }
def s_X3_giveBackLatest (σ : Sg) (k : Nat) (j : Nat) : Sg :=
  if (σ k 5) ≤ 0 then
    σ
  else
    up (s_X0_copyFrom σ j (f_X3_latest σ k)) k 5 (((s_X0_copyFrom σ j (f_X3_latest σ k)) k 5) - 1)
set_option maxHeartbeats 4000000 in
set_option maxRecDepth 100000 in
theorem k_X3_giveBackLatest (l : Launch) (D : va_G) (cy : Nat → ClassId) (z : Nat) (o : Int64) (d : UInt64) (σ τ : Sg) {k : Nat} (hk : kd k = 3) (j : Nat) (hk_j : kd j = 0) : KV l yX3_giveBackLatest cX3_giveBackLatest 2 rm_X3_giveBackLatest D cy z [.ref (z + k), .ref (z + j)] o d σ τ (s_X3_giveBackLatest σ k j) τ := by
  refine met_of RX3 (plainFor_of_name (by decide)) rfl (Nat.le_of_ble_eq_true rfl) ?_
  intro p e s m args below meth c C hP hS ls hl
  obtain ⟨hx, hb, hr, hml, hown, hW, hlocks, hAm⟩ := id C
  have hl : lv_has ls 2 [(0, .ref (z + k)), (1, .ref (z + j))] := hl
  refine lv_aload_n hx hb dX3_giveBackLatest_0 rfl (lv_at hl 0 rfl) ?_
  refine gf_X3_27 C hP hk dX3_giveBackLatest_1 ?_
  refine lv_if_le (tgt := 25) hx hb dX3_giveBackLatest_4 (by decide) (fun c_4 => ?_) (fun c_4 => ?_)
  · exact ret_V C hP hS (by unfold s_X3_giveBackLatest; rw [if_pos c_4]) rfl dX3_giveBackLatest_25
  · refine lv_aload_n hx hb dX3_giveBackLatest_7 rfl (lv_at hl 1 rfl) ?_
    refine lv_aload_n hx hb dX3_giveBackLatest_8 rfl (lv_at hl 0 rfl) ?_
    refine thn_R (run_V (As := []) (rest := [.ref (z + j)]) C (k_X3_latest l D cy z o d σ τ hk) hP hS cw_X3_latest (mA2 (i := 159) rfl rfl) hk ⟨rfl, rfl⟩ ⟨Nat.le_of_ble_eq_true rfl, Nat.le_of_ble_eq_true rfl⟩ rfl (Nat.le_of_ble_eq_true rfl) hl.1 ⟨Nat.zero_le _, Nat.zero_le _⟩ dX3_giveBackLatest_9) hS (fun H locs hP hS => ?_)
    refine thn_V (run_V (As := [.ref (z + (f_X3_latest σ k))]) (rest := []) C (k_X0_copyFrom l D cy z o d σ τ hk_j (f_X3_latest σ k) (kr_X3_latest σ hk)) hP hS cw_X0_copyFrom (mA2 (i := 163) rfl rfl) hk_j ⟨rfl, rfl⟩ ⟨Nat.le_of_ble_eq_true rfl, Nat.le_of_ble_eq_true rfl⟩ rfl (Nat.le_of_ble_eq_true rfl) hl.1 ⟨Nat.zero_le _, Nat.zero_le _⟩ dX3_giveBackLatest_12) hS (fun H locs hP hS => ?_)
    refine lv_aload_n hx hb dX3_giveBackLatest_15 rfl (lv_at hl 0 rfl) ?_
    refine lv_dup hx hb dX3_giveBackLatest_16 rfl ?_
    refine gf_X3_27 C hP hk dX3_giveBackLatest_17 ?_
    refine lv_iconst (v := 1) hx hb dX3_giveBackLatest_20 (by decide) ?_
    refine lv_isub hx hb dX3_giveBackLatest_21 ?_
    refine pf_X3_27 C hP hS hk dX3_giveBackLatest_22 (fun H locs hP hS => ?_)
    exact ret_V C hP hS (by unfold s_X3_giveBackLatest; rw [if_neg c_4]) rfl dX3_giveBackLatest_25
end
section
/-- only cells of P are written -/
def Fr (P : Nat → Prop) (σ σ' : Sg) : Prop := ∀ q, ¬ P q → σ' q = σ q
theorem Fr.rf {P : Nat → Prop} {σ : Sg} : Fr P σ σ := fun _ _ => rfl
theorem Fr.tr {P : Nat → Prop} {σ σ' σ'' : Sg} (h1 : Fr P σ σ') (h2 : Fr P σ' σ'') : Fr P σ σ'' := fun q h => (h2 q h).trans (h1 q h)
theorem Fr.up {P : Nat → Prop} {σ σ' : Sg} {k j : Nat} {v : Int32} (h : Fr P σ σ') (hk : P k) : Fr P σ (up σ' k j v) := fun q hq => (up_ne (fun e => hq (by rw [e]; exact hk))).trans (h q hq)
theorem Fr.mono {P P' : Nat → Prop} {σ σ' : Sg} (h : Fr P σ σ') (hP : ∀ q, P q → P' q) : Fr P' σ σ' := fun q hq => h q (fun hp => hq (hP q hp))
theorem fr_write {P : Nat → Prop} {σ σ' : Sg} {k : Nat} {x y : Int32} (h : Fr P σ σ') (hk : P (k + 1)) : Fr P σ (s_X1_write σ' k x y) := by
  unfold s_X1_write
  repeat' split
  · exact h
  · exact h
  · exact h.up hk
theorem fr_add {P : Nat → Prop} {σ σ' : Sg} {k : Nat} {x y w : Int32} (h : Fr P σ σ') (hk : P k) (hk1 : P (k + 1)) : Fr P σ (s_X1_add σ' k x y w) := by
  unfold s_X1_add
  split <;> exact fr_write (fr_write (fr_write (h.up hk) hk1) hk1) hk1
theorem fr_drop {P : Nat → Prop} {σ σ' : Sg} {k : Nat} (h : Fr P σ σ') (hk : P k) : Fr P σ (s_X1_dropLatest σ' k) := by
  unfold s_X1_dropLatest
  split
  · exact h
  · exact h.up hk
theorem fr_book {P : Nat → Prop} {σ σ' : Sg} {k : Nat} {x y : Int32} (h : Fr P σ σ') (hk : P k) : Fr P σ (s_X4_book σ' k x y) := by
  unfold s_X4_book
  repeat' split
  · exact h.up hk
  · exact h.up hk
  · exact h.up hk
  · exact h
theorem fr_move {P : Nat → Prop} {σ σ' : Sg} {k : Nat} {x y w : Int32} (h : Fr P σ σ') (hk : P k) : Fr P σ (s_X4_move σ' k x y w) := by
  unfold s_X4_move
  repeat' split
  · exact ((((fr_book h hk).up hk).up hk).up hk).up hk
  · exact (((((fr_book h hk).up hk).up hk).up hk).up hk).up hk
  · exact (((((fr_book h hk).up hk).up hk).up hk).up hk).up hk
theorem fr_sense {P : Nat → Prop} {σ σ' : Sg} {k : Nat} {x y w : Int32} (h : Fr P σ σ') (hk : P k) (hk1 : P (k + 1)) (hk2 : P (k + 2)) : Fr P σ (s_X4_sense σ' k x y w) := by
  unfold s_X4_sense
  split
  · exact fr_move (fr_add (h.up hk) hk1 hk2) hk
  · exact fr_move (fr_add h hk1 hk2) hk
theorem fr_passMark {P : Nat → Prop} {σ σ' : Sg} {k : Nat} {x : Int32} (h : Fr P σ σ') (hk : P k) : Fr P σ (s_X4_passMark σ' k x) := by
  unfold s_X4_passMark
  split <;> exact ((h.up hk).up hk).up hk
theorem fr_gretrace {P : Nat → Prop} {σ : Sg} {k : Nat} {x : Int32} (hk : P k) (hk1 : P (k + 1)) : ∀ (n i : Nat) (σ' : Sg), Fr P σ σ' → Fr P σ (gs_X4_retrace k x n i σ') := by
  intro n
  induction n with
  | zero => exact fun i σ' h => h
  | succ n ih =>
    intro i σ' h
    rw [gs_X4_retrace]
    split
    · exact h
    · exact ih _ _ (fr_drop (fr_move h hk) hk1)
theorem fr_retrace {P : Nat → Prop} {σ σ' : Sg} {k : Nat} {x : Int32} (h : Fr P σ σ') (hk : P k) (hk1 : P (k + 1)) : Fr P σ (s_X4_retrace σ' k x) := fr_gretrace hk hk1 _ _ _ h
/-- lengths stay lengths -/
theorem TXA.fr {P : Nat → Prop} {σ σ' : Sg} (h : TXA σ) (hF : Fr P σ σ') (hP : ∀ q, kd q = 2 → ¬ P q) : TXA σ' := fun q hq => by rw [hF q (hP q hq)]; exact h q hq
theorem LGA.fr {P : Nat → Prop} {σ σ' : Sg} (h : LGA σ) (hF : Fr P σ σ') (hP : ∀ q, kd q = 1 → ¬ P q) : LGA σ' := fun q hq => by rw [hF q (hP q hq)]; exact h q hq
abbrev sn (k : Nat) : Nat → Prop := fun q => q = k ∨ q = k + 1 ∨ q = k + 2
theorem sn_not2 {k : Nat} (hk : kd k = 4) : ∀ q, kd q = 2 → ¬ sn k q := by
  intro q hq h
  rcases h with rfl | rfl | rfl
  · omega
  · have := kd4_1 hk; omega
  · have : kd (k + 2) = 7 := kd1_1 (kd4_1 hk)
    omega
theorem wr_ne {σ : Sg} {k q : Nat} {x y : Int32} (h : q ≠ k + 1) : s_X1_write σ k x y q = σ q := fr_write (P := fun q => q = k + 1) (σ := σ) Fr.rf rfl q h
theorem LGA_add {σ : Sg} {k : Nat} {x y w : Int32} (h : LGA σ) (hk : kd k = 1) : LGA (s_X1_add σ k x y w) := by
  intro q hq
  have h7 := kd1_1 hk
  have hq1 : q ≠ k + 1 := fun e => by rw [e] at hq; omega
  obtain ⟨L, hL, e⟩ := h k hk
  unfold s_X1_add
  split
  · rename_i c
    rw [wr_ne hq1, wr_ne hq1, wr_ne hq1]
    by_cases hqk : q = k
    · subst hqk
      exact ⟨L, hL, by simp [up, e]⟩
    · rw [up_ne hqk]
      exact h q hq
  · rename_i c
    rw [wr_ne hq1, wr_ne hq1, wr_ne hq1]
    by_cases hqk : q = k
    · subst hqk
      have hlt : L < 16 := by
        rw [e] at c
        have := mt (cI_le (x := 16) (y := nI L) (a := 16) (b := L) rfl rfl (by omega) (by omega)).mpr c
        omega
      exact ⟨L + 1, by omega, by simp [up, e, nI_1]⟩
    · rw [up_ne hqk]
      exact h q hq
theorem LGA_up4 {σ : Sg} {k j : Nat} {v : Int32} (h : LGA σ) (hk : kd k = 4) : LGA (up σ k j v) := h.fr (P := fun q => q = k) (Fr.rf.up rfl) (fun q hq e => by subst e; omega)
theorem LGA_move {σ : Sg} {k : Nat} {x y w : Int32} (h : LGA σ) (hk : kd k = 4) : LGA (s_X4_move σ k x y w) := h.fr (P := fun q => q = k) (fr_move Fr.rf rfl) (fun q hq e => by subst e; omega)
theorem LGA_passMark {σ : Sg} {k : Nat} {x : Int32} (h : LGA σ) (hk : kd k = 4) : LGA (s_X4_passMark σ k x) := h.fr (P := fun q => q = k) (fr_passMark Fr.rf rfl) (fun q hq e => by subst e; omega)
theorem LGA_sense {σ : Sg} {k : Nat} {x y w : Int32} (h : LGA σ) (hk : kd k = 4) : LGA (s_X4_sense σ k x y w) := by
  unfold s_X4_sense
  split
  · exact LGA_move (LGA_add (LGA_up4 h hk) (kd4_1 hk)) hk
  · exact LGA_move (LGA_add h (kd4_1 hk)) hk
theorem LGA_drop {σ : Sg} {k : Nat} (h : LGA σ) (hk : kd k = 1) : LGA (s_X1_dropLatest σ k) := by
  intro q hq
  obtain ⟨L, hL, e⟩ := h k hk
  unfold s_X1_dropLatest
  split
  · exact h q hq
  · rename_i c
    by_cases hqk : q = k
    · subst hqk
      have hpos : 0 < L := by
        rw [e] at c
        have := mt (cI_le (x := nI L) (y := 0) (a := L) (b := 0) rfl rfl (by omega) (by omega)).mpr c
        omega
      obtain ⟨L', rfl⟩ : ∃ L', L = L' + 1 := ⟨L - 1, by omega⟩
      exact ⟨L', by omega, by simp [up, e, nI_pred]⟩
    · rw [up_ne hqk]
      exact h q hq
theorem LGA_gretrace {k : Nat} {x : Int32} (hk : kd k = 4) : ∀ (n i : Nat) (σ : Sg), LGA σ → LGA (gs_X4_retrace k x n i σ) := by
  intro n
  induction n with
  | zero => exact fun i σ' h => h
  | succ n ih =>
    intro i σ' h
    rw [gs_X4_retrace]
    split
    · exact h
    · exact ih _ _ (LGA_drop (LGA_move h hk) (kd4_1 hk))
theorem LGA_retrace {σ : Sg} {k : Nat} {x : Int32} (h : LGA σ) (hk : kd k = 4) : LGA (s_X4_retrace σ k x) := LGA_gretrace hk _ _ _ h
/-- the text's numbers as Nats -/
def EO (σ : Sg) (k a : Nat) : Nat := (f_X2_endOfOrder σ k a).toNatClampNeg
def OR (σ : Sg) (k : Nat) : Nat := (f_X2_orders σ k).toNatClampNeg
theorem geo_of {σ : Sg} {k L : Nat} (hL : L ≤ 80) : ∀ n i : Nat, L + 1 ≤ i + n → 1 ≤ n → ∃ r, r ≤ 80 ∧ gf_X2_endOfOrder σ k L n i = nI r := by
  intro n
  induction n with
  | zero => intro i _ h; omega
  | succ n ih =>
    intro i h1 h2
    rw [gf_X2_endOfOrder]
    split
    · exact ⟨L, hL, rfl⟩
    · split
      · exact ⟨i, by omega, rfl⟩
      · exact ih _ (by omega) (by omega)
theorem eo_of {σ : Sg} {k a : Nat} (hT : TXA σ) (hk : kd k = 2) : f_X2_endOfOrder σ k a = nI (EO σ k a) ∧ EO σ k a ≤ 80 := by
  have hL := (hT.of hk).2
  obtain ⟨r, h1, h2⟩ := geo_of (σ := σ) (k := k) hL 81 a (by omega) (by omega)
  have h3 : f_X2_endOfOrder σ k a = nI r := h2
  have : EO σ k a = r := by unfold EO; rw [h3]; exact nI_clamp (by omega)
  rw [this]
  exact ⟨h3, h1⟩
theorem gor_of {σ : Sg} {k L : Nat} : ∀ n i c : Nat, ∃ r, r ≤ c + n ∧ gf_X2_orders σ k L n (nI c) i = nI r := by
  intro n
  induction n with
  | zero => intro i c; exact ⟨0, by omega, rfl⟩
  | succ n ih =>
    intro i c
    rw [gf_X2_orders]
    split
    · exact ⟨c, by omega, rfl⟩
    · split
      · rw [nI_1]
        obtain ⟨r, h1, h2⟩ := ih (i + 1) (c + 1)
        exact ⟨r, by omega, h2⟩
      · obtain ⟨r, h1, h2⟩ := ih (i + 1) c
        exact ⟨r, by omega, h2⟩
theorem or_of {σ : Sg} {k : Nat} : f_X2_orders σ k = nI (OR σ k) ∧ OR σ k ≤ 82 := by
  obtain ⟨r, h1, h2⟩ := gor_of (σ := σ) (k := k) (L := TL σ k) 81 0 1
  have h3 : f_X2_orders σ k = nI r := h2
  have : OR σ k = r := by unfold OR; rw [h3]; exact nI_clamp (by omega)
  rw [this]
  exact ⟨h3, h1⟩
theorem chr_bd (x : Int32) : 0 ≤ (chr x).toInt ∧ (chr x).toInt ≤ 65535 := by
  have h := pk_char x
  have h2 : chr x = nI (x.toBitVec.toNat % 65536) := h
  have h3 : x.toBitVec.toNat % 65536 < 65536 := Nat.mod_lt _ (by decide)
  rw [h2, nI_toInt (by omega)]
  omega
theorem sign_bd (σ : Sg) (k : Nat) (x : Int32) : 0 ≤ (f_X2_sign σ k x).toInt ∧ (f_X2_sign σ k x).toInt ≤ 65535 := by
  unfold f_X2_sign
  repeat' split
  all_goals first | exact chr_bd _ | decide
theorem digit_bd (σ : Sg) (k : Nat) (x : Int32) : (f_X2_digit σ k x).toInt = (f_X2_sign σ k x).toInt - 48 := by
  have h := sign_bd σ k x
  unfold f_X2_digit
  rw [Int32.toInt_sub]
  rw [show (48 : Int32).toInt = 48 from rfl]
  apply Int.bmod_eq_of_le <;> omega
theorem number_bd (σ : Sg) (k : Nat) (x : Int32) : -1000 ≤ (f_X2_number σ k x).toInt ∧ (f_X2_number σ k x).toInt ≤ 1000000 := by
  have h := sign_bd σ k x
  have h0 := digit_bd σ k x
  have h1 := sign_bd σ k (x + 1)
  unfold f_X2_number
  split
  · rw [h0]; omega
  · have e : ((f_X2_sign σ k (x + 1)) - 48).toInt = (f_X2_sign σ k (x + 1)).toInt - 48 := by
      rw [Int32.toInt_sub, show (48 : Int32).toInt = 48 from rfl]
      apply Int.bmod_eq_of_le <;> omega
    have e2 : ((10 : Int32) * (f_X2_digit σ k x)).toInt = 10 * (f_X2_digit σ k x).toInt := by
      rw [Int32.toInt_mul, show (10 : Int32).toInt = 10 from rfl]
      apply Int.bmod_eq_of_le <;> omega
    rw [Int32.toInt_add, e, e2]
    rw [Int.bmod_eq_of_le (by omega) (by omega)]
    omega
end
section
theorem cw_X5_goBackIfPossible : cwSt yX5_goBackIfPossible cX5_goBackIfPossible 2 (some .boolean) 2 := ⟨(mA3 (i := 77) rfl rfl), (mA1 (i := 1) rfl rfl), (mA3 (i := 78) rfl rfl), by decide +kernel⟩
abbrev rm_X5_goBackIfPossible : Room := { frames := 4, cells := 0, slots := 0, locals := 89 }
def f_X5_goBackIfPossible (σ : Sg) (j : Nat) (x : Int32) : Int32 :=
  if (f_X4_canRetrace σ j x) = 0 then
    0
  else
    1
def s_X5_goBackIfPossible (σ : Sg) (j : Nat) (x : Int32) : Sg :=
  if (f_X4_canRetrace σ j x) = 0 then
    σ
  else
    s_X4_retrace σ j x
set_option maxHeartbeats 4000000 in
set_option maxRecDepth 100000 in
theorem k_X5_goBackIfPossible (l : Launch) (D : va_G) (cy : Nat → ClassId) (z : Nat) (o : Int64) (d : UInt64) (σ τ : Sg) (j : Nat) (hk_j : kd j = 4) (x : Int32) (hG : LGA σ) (hx9 : -1000 ≤ x.toInt ∧ x.toInt ≤ 1000000) : KI l yX5_goBackIfPossible cX5_goBackIfPossible 2 (some .boolean) rm_X5_goBackIfPossible D cy z [.ref (z + j), .int x] o d σ τ (f_X5_goBackIfPossible σ j x) (s_X5_goBackIfPossible σ j x) τ := by
  refine met_of RX5 (plainFor_of_name (by decide)) rfl (Nat.le_of_ble_eq_true rfl) ?_
  intro p e s m args below meth c C hP hS ls hl
  obtain ⟨hx, hb, hr, hml, hown, hW, hlocks, hAm⟩ := id C
  have hl : lv_has ls 2 [(0, .ref (z + j)), (1, .int x)] := hl
  refine lv_aload_n hx hb dX5_goBackIfPossible_0 rfl (lv_at hl 0 rfl) ?_
  refine lv_iload_n hx hb dX5_goBackIfPossible_1 rfl (lv_at hl 1 rfl) ?_
  refine thn_I (run_V (As := [.int x]) (rest := []) C (k_X4_canRetrace l D cy z o d σ τ hk_j x hG hx9) hP hS cw_X4_canRetrace (mA2 (i := 224) rfl rfl) hk_j ⟨rfl, rfl⟩ ⟨Nat.le_of_ble_eq_true rfl, Nat.le_of_ble_eq_true rfl⟩ rfl (Nat.le_of_ble_eq_true rfl) hl.1 ⟨Nat.zero_le _, Nat.zero_le _⟩ dX5_goBackIfPossible_2) hS (fun H locs hP hS => ?_)
  refine lv_if_ne (tgt := 10) hx hb dX5_goBackIfPossible_5 (by decide) (fun c_5 => ?_) (fun c_5 => ?_)
  · refine lv_aload_n hx hb dX5_goBackIfPossible_10 rfl (lv_at hl 0 rfl) ?_
    refine lv_iload_n hx hb dX5_goBackIfPossible_11 rfl (lv_at hl 1 rfl) ?_
    refine thn_V (run_V (As := [.int x]) (rest := []) C (k_X4_retrace l D cy z o d σ τ hk_j x hx9.2) hP hS cw_X4_retrace (mA3 (i := 2) rfl rfl) hk_j ⟨rfl, rfl⟩ ⟨Nat.le_of_ble_eq_true rfl, Nat.le_of_ble_eq_true rfl⟩ rfl (Nat.le_of_ble_eq_true rfl) hl.1 ⟨Nat.zero_le _, Nat.zero_le _⟩ dX5_goBackIfPossible_12) hS (fun H locs hP hS => ?_)
    refine lv_iconst (v := 1) hx hb dX5_goBackIfPossible_15 (by decide) ?_
    exact ret_I C hP hS nar_z1 rfl (by unfold f_X5_goBackIfPossible; rw [if_neg c_5]) (by unfold s_X5_goBackIfPossible; rw [if_neg c_5]) rfl dX5_goBackIfPossible_16
  · refine lv_iconst (v := 0) hx hb dX5_goBackIfPossible_8 (by decide) ?_
    exact ret_I C hP hS nar_z0 rfl (by unfold f_X5_goBackIfPossible; rw [if_pos c_5]) (by unfold s_X5_goBackIfPossible; rw [if_pos c_5]) rfl dX5_goBackIfPossible_9
theorem nz_X5_goBackIfPossible (σ : Sg) (j : Nat) (x : Int32) : narrow .boolean (.int (f_X5_goBackIfPossible σ j x)) = .int (f_X5_goBackIfPossible σ j x) := by
  unfold f_X5_goBackIfPossible
  repeat' split
  all_goals first | exact nar_z1 | exact nar_z0

theorem cw_X5_feelAll : cwVt yX5_feelAll cX5_feelAll 8 (some .boolean) 5 4 := ⟨(mA3 (i := 85) rfl rfl), (mA0 (i := 11) rfl rfl), (mA1 (i := 1) rfl rfl), (mA3 (i := 86) rfl rfl), by decide +kernel, ⟨_, rfl, rfl⟩, by decide⟩
abbrev rm_X5_feelAll : Room := { frames := 3, cells := 0, slots := 0, locals := 69 }
def gf_X5_feelAll (k j : Nat) (x : Int32) (b : Nat) : Nat → Nat → Sg → Int32
  | 0, _, _ => 0
  | n + 1, i, σ =>
    if b ≤ i then
      1
    else
      if (f_X4_hasRoom σ j 1 (ab (f_X4_stepUnder σ j x (f_X2_digit σ (k + 93) (nI i))))) = 0 then
        0
      else
        gf_X5_feelAll k j x b n (i + 1) (s_X4_sense σ j (f_X2_digit σ (k + 93) (nI i)) (f_X4_stepUnder σ j x (f_X2_digit σ (k + 93) (nI i))) 1)
def gs_X5_feelAll (k j : Nat) (x : Int32) (b : Nat) : Nat → Nat → Sg → Sg
  | 0, _, σ => σ
  | n + 1, i, σ =>
    if b ≤ i then
      σ
    else
      if (f_X4_hasRoom σ j 1 (ab (f_X4_stepUnder σ j x (f_X2_digit σ (k + 93) (nI i))))) = 0 then
        σ
      else
        gs_X5_feelAll k j x b n (i + 1) (s_X4_sense σ j (f_X2_digit σ (k + 93) (nI i)) (f_X4_stepUnder σ j x (f_X2_digit σ (k + 93) (nI i))) 1)
set_option maxHeartbeats 4000000 in
set_option maxRecDepth 100000 in
theorem lp_X5_feelAll {p : Program} {l : Launch} {e : Env} {s : State} {m : MethodId} {args : Array Value} {below : List Frame} {meth : Method} {c : Code} {D : va_G} {cy : Nat → ClassId} {z : Nat} (C : Bd p s m args meth c cX5_feelAll 8 (some .boolean) RX5 D cy z) (o : Int64) (d : UInt64) {k : Nat} (hk : kd k = 5) {j : Nat} (hk_j : kd j = 4) (x : Int32) (b : Nat) {r9 : Int32} {σ9 : Sg} :
    ∀ (n : Nat) (i : Nat) (σ τ : Sg) (H : Heap) (locs : List Loc), (b ≤ 200 ∧ i ≤ 201 ∧ b + 1 ≤ i + n ∧ 1 ≤ n) → (gf_X5_feelAll k j x b n i σ = r9) → (gs_X5_feelAll k j x b n i σ = σ9) → WP D cy z σ τ o d H → va_S (fz z) s.heap H locs → ∀ ls : Array Slot, lv_has ls 8 [(0, .ref (z + k)), (1, .ref (z + j)), (2, .int x), (4, .int (nI b)), (5, .int (nI i))] → W p l e rm_X5_feelAll s m args below meth c H locs 0 0 (MQ below (PoI D cy z o d r9 σ9 τ) args s 0 0 (fz z)) (F0 m 3 ls []) := by
  obtain ⟨hx, hb, hr, hml, hown, hW, hlocks, hAm⟩ := id C
  intro n
  induction n with
  | zero =>
    intro _ σ τ H locs hn9 _ _ hP hS ls hl
    exact absurd hn9 (by omega)
  | succ n ih =>
    intro i σ τ H locs hn9 hr9 hs9 hP hS ls hl
    refine lv_iload hx hb dX5_feelAll_3 (lv_at hl 4 rfl) ?_
    refine lv_iload hx hb dX5_feelAll_5 (lv_at hl 3 rfl) ?_
    refine lv_icmp_ge (tgt := 60) hx hb dX5_feelAll_7 (by decide) (fun c_7 => ?_) (fun c_7 => ?_)
    · have d_7 : b ≤ i := (cI_le rfl rfl (by omega) (by omega)).mp c_7
      refine lv_iconst (v := 1) hx hb dX5_feelAll_60 (by decide) ?_
      exact ret_I C hP hS nar_z1 rfl (by rw [← hr9, gf_X5_feelAll]; rw [if_pos d_7]) (by rw [← hs9, gs_X5_feelAll]; rw [if_pos d_7]) rfl dX5_feelAll_61
    · have d_7 : ¬ (b ≤ i) := fun h9 => c_7 ((cI_le rfl rfl (by omega) (by omega)).mpr h9)
      refine lv_aload_n hx hb dX5_feelAll_10 rfl (lv_at hl 0 rfl) ?_
      refine gf_X5_32 C hP hk dX5_feelAll_11 ?_
      refine lv_iload hx hb dX5_feelAll_14 (lv_at hl 4 rfl) ?_
      refine thn_I (run_V (As := [.int (nI i)]) (rest := []) C (k_X2_digit l D cy z o d σ τ (kd5_93 hk) (nI i)) hP hS cw_X2_digit (mA3 (i := 66) rfl rfl) (kd5_93 hk) ⟨rfl, rfl⟩ ⟨Nat.le_of_ble_eq_true rfl, Nat.le_of_ble_eq_true rfl⟩ rfl (Nat.le_of_ble_eq_true rfl) hl.1 ⟨Nat.zero_le _, Nat.zero_le _⟩ dX5_feelAll_16) hS (fun H locs hP hS => ?_)
      refine lv_istore (lv' := [(6, .int (f_X2_digit σ (k + 93) (nI i))), (0, .ref (z + k)), (1, .ref (z + j)), (2, .int x), (4, .int (nI b)), (5, .int (nI i))]) hx hb dX5_feelAll_19 hl (by decide) rfl (fun ls hl => ?_)
      refine lv_aload_n hx hb dX5_feelAll_21 rfl (lv_at hl 2 rfl) ?_
      refine lv_iload_n hx hb dX5_feelAll_22 rfl (lv_at hl 3 rfl) ?_
      refine lv_iload hx hb dX5_feelAll_23 (lv_at hl 0 rfl) ?_
      refine thn_I (run_V (As := [.int x, .int (f_X2_digit σ (k + 93) (nI i))]) (rest := []) C (k_X4_stepUnder l D cy z o d σ τ hk_j x (f_X2_digit σ (k + 93) (nI i))) hP hS cw_X4_stepUnder (mA2 (i := 117) rfl rfl) hk_j ⟨rfl, rfl⟩ ⟨Nat.le_of_ble_eq_true rfl, Nat.le_of_ble_eq_true rfl⟩ rfl (Nat.le_of_ble_eq_true rfl) hl.1 ⟨Nat.zero_le _, Nat.zero_le _⟩ dX5_feelAll_25) hS (fun H locs hP hS => ?_)
      refine lv_istore (lv' := [(7, .int (f_X4_stepUnder σ j x (f_X2_digit σ (k + 93) (nI i)))), (6, .int (f_X2_digit σ (k + 93) (nI i))), (0, .ref (z + k)), (1, .ref (z + j)), (2, .int x), (4, .int (nI b)), (5, .int (nI i))]) hx hb dX5_feelAll_28 hl (by decide) rfl (fun ls hl => ?_)
      refine lv_aload_n hx hb dX5_feelAll_30 rfl (lv_at hl 3 rfl) ?_
      refine lv_iconst (v := 1) hx hb dX5_feelAll_31 (by decide) ?_
      refine lv_iload hx hb dX5_feelAll_32 (lv_at hl 0 rfl) ?_
      refine g_abs C (mA2 (i := 128) rfl rfl) (Nat.le_of_ble_eq_true rfl) (Nat.le_of_ble_eq_true rfl) ⟨Nat.zero_le _, Nat.zero_le _⟩ hl.1 dX5_feelAll_34 ?_
      refine thn_I (run_V (As := [.int 1, .int (ab (f_X4_stepUnder σ j x (f_X2_digit σ (k + 93) (nI i))))]) (rest := []) C (k_X4_hasRoom l D cy z o d σ τ hk_j 1 (ab (f_X4_stepUnder σ j x (f_X2_digit σ (k + 93) (nI i))))) hP hS cw_X4_hasRoom (mA2 (i := 134) rfl rfl) hk_j ⟨rfl, rfl⟩ ⟨Nat.le_of_ble_eq_true rfl, Nat.le_of_ble_eq_true rfl⟩ rfl (Nat.le_of_ble_eq_true rfl) hl.1 ⟨Nat.zero_le _, Nat.zero_le _⟩ dX5_feelAll_37) hS (fun H locs hP hS => ?_)
      refine lv_if_ne (tgt := 45) hx hb dX5_feelAll_40 (by decide) (fun c_40 => ?_) (fun c_40 => ?_)
      · refine lv_aload_n hx hb dX5_feelAll_45 rfl (lv_at hl 3 rfl) ?_
        refine lv_iload hx hb dX5_feelAll_46 (lv_at hl 1 rfl) ?_
        refine lv_iload hx hb dX5_feelAll_48 (lv_at hl 0 rfl) ?_
        refine lv_iconst (v := 1) hx hb dX5_feelAll_50 (by decide) ?_
        refine thn_V (run_V (As := [.int (f_X2_digit σ (k + 93) (nI i)), .int (f_X4_stepUnder σ j x (f_X2_digit σ (k + 93) (nI i))), .int 1]) (rest := []) C (k_X4_sense l D cy z o d σ τ hk_j (f_X2_digit σ (k + 93) (nI i)) (f_X4_stepUnder σ j x (f_X2_digit σ (k + 93) (nI i))) 1) hP hS cw_X4_sense (mA2 (i := 164) rfl rfl) hk_j ⟨rfl, rfl⟩ ⟨Nat.le_of_ble_eq_true rfl, Nat.le_of_ble_eq_true rfl⟩ rfl (Nat.le_of_ble_eq_true rfl) hl.1 ⟨Nat.zero_le _, Nat.zero_le _⟩ dX5_feelAll_51) hS (fun H locs hP hS => ?_)
        refine lv_iinc (v := nI (i + 1)) (lv' := [(5, .int (nI (i + 1))), (7, .int (f_X4_stepUnder σ j x (f_X2_digit σ (k + 93) (nI i)))), (6, .int (f_X2_digit σ (k + 93) (nI i))), (0, .ref (z + k)), (1, .ref (z + j)), (2, .int x), (4, .int (nI b))]) hx hb dX5_feelAll_54 hl (k := 6) rfl (nI_1 i) (by decide) rfl (fun ls hl => ?_)
        refine lv_goto (tgt := 3) hx hb dX5_feelAll_57 (by decide) ?_
        exact ih (i + 1) (s_X4_sense σ j (f_X2_digit σ (k + 93) (nI i)) (f_X4_stepUnder σ j x (f_X2_digit σ (k + 93) (nI i))) 1) τ _ _ (⟨by omega, by omega, by omega, by omega⟩) (by rw [← hr9, gf_X5_feelAll]; rw [if_neg d_7, if_neg c_40]) (by rw [← hs9, gs_X5_feelAll]; rw [if_neg d_7, if_neg c_40]) hP hS ls (lv_sub hl [3, 4, 5, 6, 0] rfl)
      · refine lv_iconst (v := 0) hx hb dX5_feelAll_43 (by decide) ?_
        exact ret_I C hP hS nar_z0 rfl (by rw [← hr9, gf_X5_feelAll]; rw [if_neg d_7, if_pos c_40]) (by rw [← hs9, gs_X5_feelAll]; rw [if_neg d_7, if_pos c_40]) rfl dX5_feelAll_44
def f_X5_feelAll (σ : Sg) (k : Nat) (j : Nat) (x : Int32) (a : Nat) (b : Nat) : Int32 :=
  gf_X5_feelAll k j x b (b + 1) a σ
def s_X5_feelAll (σ : Sg) (k : Nat) (j : Nat) (x : Int32) (a : Nat) (b : Nat) : Sg :=
  gs_X5_feelAll k j x b (b + 1) a σ
set_option maxHeartbeats 4000000 in
set_option maxRecDepth 100000 in
theorem k_X5_feelAll (l : Launch) (D : va_G) (cy : Nat → ClassId) (z : Nat) (o : Int64) (d : UInt64) (σ τ : Sg) {k : Nat} (hk : kd k = 5) (j : Nat) (hk_j : kd j = 4) (x : Int32) (a : Nat) (b : Nat) (ha : a ≤ 200) (hb9 : b ≤ 200) : KI l yX5_feelAll cX5_feelAll 8 (some .boolean) rm_X5_feelAll D cy z [.ref (z + k), .ref (z + j), .int x, .int (nI a), .int (nI b)] o d σ τ (f_X5_feelAll σ k j x a b) (s_X5_feelAll σ k j x a b) τ := by
  refine met_of RX5 (plainFor_of_name (by decide)) rfl (Nat.le_of_ble_eq_true rfl) ?_
  intro p e s m args below meth c C hP hS ls hl
  obtain ⟨hx, hb, hr, hml, hown, hW, hlocks, hAm⟩ := id C
  have hl : lv_has ls 8 [(0, .ref (z + k)), (1, .ref (z + j)), (2, .int x), (3, .int (nI a)), (4, .int (nI b))] := hl
  refine lv_iload_n hx hb dX5_feelAll_0 rfl (lv_at hl 3 rfl) ?_
  refine lv_istore (lv' := [(5, .int (nI a)), (0, .ref (z + k)), (1, .ref (z + j)), (2, .int x), (3, .int (nI a)), (4, .int (nI b))]) hx hb dX5_feelAll_1 hl (by decide) rfl (fun ls hl => ?_)
  exact lp_X5_feelAll C o d hk hk_j x b (b + 1) a σ τ _ _ (⟨by omega, by omega, by omega, by omega⟩) rfl rfl hP hS ls (lv_sub hl [1, 2, 3, 5, 0] rfl)

theorem gnz_X5_feelAll (k j : Nat) (x : Int32) (b : Nat) : ∀ (n i : Nat) (σ : Sg), gf_X5_feelAll k j x b n i σ = 0 ∨ gf_X5_feelAll k j x b n i σ = 1 := by
  intro n
  induction n with
  | zero => intro i σ; exact Or.inl rfl
  | succ n ih =>
    intro i σ
    rw [gf_X5_feelAll]
    repeat' split
    all_goals first | exact Or.inl rfl | exact Or.inr rfl | exact ih _ _
theorem nz_X5_feelAll (σ : Sg) (k j : Nat) (x : Int32) (a b : Nat) : narrow .boolean (.int (f_X5_feelAll σ k j x a b)) = .int (f_X5_feelAll σ k j x a b) := by
  rcases gnz_X5_feelAll k j x b (b + 1) a σ with h | h
  · rw [show f_X5_feelAll σ k j x a b = 0 from h]; exact nar_z0
  · rw [show f_X5_feelAll σ k j x a b = 1 from h]; exact nar_z1
theorem cw_X5_follow : cwVt yX5_follow cX5_follow 5 (some .boolean) 5 2 := ⟨(mA3 (i := 64) rfl rfl), (mA0 (i := 10) rfl rfl), (mA1 (i := 1) rfl rfl), (mA3 (i := 65) rfl rfl), by decide +kernel, ⟨_, rfl, rfl⟩, by decide⟩
abbrev rm_X5_follow : Room := { frames := 5, cells := 0, slots := 0, locals := 110 }
def f_X5_follow (σ : Sg) (k : Nat) (j : Nat) (a : Nat) : Int32 :=
  if (f_X2_sign σ (k + 93) ((nI a) + 1)) = 109 then
    1
  else
    if (f_X2_sign σ (k + 93) ((nI a) + 1)) = 98 then
      f_X5_goBackIfPossible σ (f_X0_snail σ j (f_X2_digit σ (k + 93) (nI a))) (f_X2_number σ (k + 93) ((nI a) + 2))
    else
      f_X5_feelAll σ k (f_X0_snail σ j (f_X2_digit σ (k + 93) (nI a))) (σ j 4) (a + 2) (EO σ (k + 93) a)
def s_X5_follow (σ : Sg) (k : Nat) (j : Nat) (a : Nat) : Sg :=
  if (f_X2_sign σ (k + 93) ((nI a) + 1)) = 109 then
    s_X4_passMark σ (f_X0_snail σ j (f_X2_digit σ (k + 93) (nI a))) (σ j 5)
  else
    if (f_X2_sign σ (k + 93) ((nI a) + 1)) = 98 then
      s_X5_goBackIfPossible σ (f_X0_snail σ j (f_X2_digit σ (k + 93) (nI a))) (f_X2_number σ (k + 93) ((nI a) + 2))
    else
      s_X5_feelAll σ k (f_X0_snail σ j (f_X2_digit σ (k + 93) (nI a))) (σ j 4) (a + 2) (EO σ (k + 93) a)
set_option maxHeartbeats 4000000 in
set_option maxRecDepth 100000 in
theorem k_X5_follow (l : Launch) (D : va_G) (cy : Nat → ClassId) (z : Nat) (o : Int64) (d : UInt64) (σ τ : Sg) {k : Nat} (hk : kd k = 5) (j : Nat) (hk_j : kd j = 0) (a : Nat) (hG : LGA σ) (hT : TXA σ) (ha : a ≤ 100) : KI l yX5_follow cX5_follow 5 (some .boolean) rm_X5_follow D cy z [.ref (z + k), .ref (z + j), .int (nI a)] o d σ τ (f_X5_follow σ k j a) (s_X5_follow σ k j a) τ := by
  refine met_of RX5 (plainFor_of_name (by decide)) rfl (Nat.le_of_ble_eq_true rfl) ?_
  intro p e s m args below meth c C hP hS ls hl
  obtain ⟨hx, hb, hr, hml, hown, hW, hlocks, hAm⟩ := id C
  have hl : lv_has ls 5 [(0, .ref (z + k)), (1, .ref (z + j)), (2, .int (nI a))] := hl
  refine lv_aload_n hx hb dX5_follow_0 rfl (lv_at hl 1 rfl) ?_
  refine lv_aload_n hx hb dX5_follow_1 rfl (lv_at hl 0 rfl) ?_
  refine gf_X5_32 C hP hk dX5_follow_2 ?_
  refine lv_iload_n hx hb dX5_follow_5 rfl (lv_at hl 2 rfl) ?_
  refine thn_I (run_V (As := [.int (nI a)]) (rest := [.ref (z + j)]) C (k_X2_digit l D cy z o d σ τ (kd5_93 hk) (nI a)) hP hS cw_X2_digit (mA3 (i := 66) rfl rfl) (kd5_93 hk) ⟨rfl, rfl⟩ ⟨Nat.le_of_ble_eq_true rfl, Nat.le_of_ble_eq_true rfl⟩ rfl (Nat.le_of_ble_eq_true rfl) hl.1 ⟨Nat.zero_le _, Nat.zero_le _⟩ dX5_follow_6) hS (fun H locs hP hS => ?_)
  refine thn_R (run_V (As := [.int (f_X2_digit σ (k + 93) (nI a))]) (rest := []) C (k_X0_snail l D cy z o d σ τ hk_j (f_X2_digit σ (k + 93) (nI a))) hP hS cw_X0_snail (mA1 (i := 239) rfl rfl) hk_j ⟨rfl, rfl⟩ ⟨Nat.le_of_ble_eq_true rfl, Nat.le_of_ble_eq_true rfl⟩ rfl (Nat.le_of_ble_eq_true rfl) hl.1 ⟨Nat.zero_le _, Nat.zero_le _⟩ dX5_follow_9) hS (fun H locs hP hS => ?_)
  refine lv_astore_n (lv' := [(3, .ref (z + (f_X0_snail σ j (f_X2_digit σ (k + 93) (nI a))))), (0, .ref (z + k)), (1, .ref (z + j)), (2, .int (nI a))]) hx hb dX5_follow_12 rfl hl (by decide) rfl (fun ls hl => ?_)
  refine lv_aload_n hx hb dX5_follow_13 rfl (lv_at hl 1 rfl) ?_
  refine gf_X5_32 C hP hk dX5_follow_14 ?_
  refine lv_iload_n hx hb dX5_follow_17 rfl (lv_at hl 3 rfl) ?_
  refine lv_iconst (v := 1) hx hb dX5_follow_18 (by decide) ?_
  refine lv_iadd hx hb dX5_follow_19 ?_
  refine thn_I (run_V (As := [.int ((nI a) + 1)]) (rest := []) C (k_X2_sign l D cy z o d σ τ (kd5_93 hk) ((nI a) + 1)) hP hS cw_X2_sign (mA3 (i := 70) rfl rfl) (kd5_93 hk) ⟨rfl, rfl⟩ ⟨Nat.le_of_ble_eq_true rfl, Nat.le_of_ble_eq_true rfl⟩ rfl (Nat.le_of_ble_eq_true rfl) hl.1 ⟨Nat.zero_le _, Nat.zero_le _⟩ dX5_follow_20) hS (fun H locs hP hS => ?_)
  refine lv_istore (lv' := [(4, .int (f_X2_sign σ (k + 93) ((nI a) + 1))), (3, .ref (z + (f_X0_snail σ j (f_X2_digit σ (k + 93) (nI a))))), (0, .ref (z + k)), (1, .ref (z + j)), (2, .int (nI a))]) hx hb dX5_follow_23 hl (by decide) rfl (fun ls hl => ?_)
  refine lv_iload hx hb dX5_follow_25 (lv_at hl 0 rfl) ?_
  refine lv_bipush (v := 109) hx hb dX5_follow_27 (by decide) ?_
  refine lv_icmp_ne (tgt := 43) hx hb dX5_follow_29 (by decide) (fun c_29 => ?_) (fun c_29 => ?_)
  · refine lv_iload hx hb dX5_follow_43 (lv_at hl 0 rfl) ?_
    refine lv_bipush (v := 98) hx hb dX5_follow_45 (by decide) ?_
    refine lv_icmp_ne (tgt := 65) hx hb dX5_follow_47 (by decide) (fun c_47 => ?_) (fun c_47 => ?_)
    · refine lv_aload_n hx hb dX5_follow_65 rfl (lv_at hl 2 rfl) ?_
      refine lv_aload_n hx hb dX5_follow_66 rfl (lv_at hl 1 rfl) ?_
      refine lv_aload_n hx hb dX5_follow_67 rfl (lv_at hl 3 rfl) ?_
      refine gf_X5_51 C hP hk_j dX5_follow_68 ?_
      refine lv_iload_n hx hb dX5_follow_71 rfl (lv_at hl 4 rfl) ?_
      refine lv_iconst (v := 2) hx hb dX5_follow_72 (by decide) ?_
      refine lv_iadd hx hb dX5_follow_73 ?_
      rw [show nI a + 2 = nI (a + 2) from nI_add a 2]
      refine lv_aload_n hx hb dX5_follow_74 rfl (lv_at hl 2 rfl) ?_
      refine gf_X5_32 C hP hk dX5_follow_75 ?_
      refine lv_iload_n hx hb dX5_follow_78 rfl (lv_at hl 4 rfl) ?_
      refine thn_I (run_V (As := [.int (nI a)]) (rest := [.int (nI (a + 2)), .int (σ j 4), .ref (z + (f_X0_snail σ j (f_X2_digit σ (k + 93) (nI a)))), .ref (z + k)]) C (k_X2_endOfOrder l D cy z o d σ τ (kd5_93 hk) a hT (by omega)) hP hS cw_X2_endOfOrder (mA3 (i := 79) rfl rfl) (kd5_93 hk) ⟨rfl, rfl⟩ ⟨Nat.le_of_ble_eq_true rfl, Nat.le_of_ble_eq_true rfl⟩ rfl (Nat.le_of_ble_eq_true rfl) hl.1 ⟨Nat.zero_le _, Nat.zero_le _⟩ dX5_follow_79) hS (fun H locs hP hS => ?_)
      have he9 := (eo_of (a := a) hT (kd5_93 hk)).2
      rw [(eo_of hT (kd5_93 hk)).1]
      refine thn_I (run_V (As := [.ref (z + (f_X0_snail σ j (f_X2_digit σ (k + 93) (nI a)))), .int (σ j 4), .int (nI (a + 2)), .int (nI (EO σ (k + 93) a))]) (rest := []) C (k_X5_feelAll l D cy z o d σ τ hk (f_X0_snail σ j (f_X2_digit σ (k + 93) (nI a))) (kr_X0_snail σ hk_j (f_X2_digit σ (k + 93) (nI a))) (σ j 4) (a + 2) (EO σ (k + 93) a) (by omega) (by omega)) hP hS cw_X5_feelAll (mA3 (i := 83) rfl rfl) hk ⟨rfl, rfl⟩ ⟨Nat.le_of_ble_eq_true rfl, Nat.le_of_ble_eq_true rfl⟩ rfl (Nat.le_of_ble_eq_true rfl) hl.1 ⟨Nat.zero_le _, Nat.zero_le _⟩ dX5_follow_82) hS (fun H locs hP hS => ?_)
      exact ret_I C hP hS (nz_X5_feelAll _ _ _ _ _ _) rfl (by unfold f_X5_follow; rw [if_neg c_29, if_neg c_47]) (by unfold s_X5_follow; rw [if_neg c_29, if_neg c_47]) rfl dX5_follow_85
    · refine lv_aload_n hx hb dX5_follow_50 rfl (lv_at hl 1 rfl) ?_
      refine lv_aload_n hx hb dX5_follow_51 rfl (lv_at hl 2 rfl) ?_
      refine gf_X5_32 C hP hk dX5_follow_52 ?_
      refine lv_iload_n hx hb dX5_follow_55 rfl (lv_at hl 4 rfl) ?_
      refine lv_iconst (v := 2) hx hb dX5_follow_56 (by decide) ?_
      refine lv_iadd hx hb dX5_follow_57 ?_
      refine thn_I (run_V (As := [.int ((nI a) + 2)]) (rest := [.ref (z + (f_X0_snail σ j (f_X2_digit σ (k + 93) (nI a))))]) C (k_X2_number l D cy z o d σ τ (kd5_93 hk) ((nI a) + 2)) hP hS cw_X2_number (mA3 (i := 71) rfl rfl) (kd5_93 hk) ⟨rfl, rfl⟩ ⟨Nat.le_of_ble_eq_true rfl, Nat.le_of_ble_eq_true rfl⟩ rfl (Nat.le_of_ble_eq_true rfl) hl.1 ⟨Nat.zero_le _, Nat.zero_le _⟩ dX5_follow_58) hS (fun H locs hP hS => ?_)
      refine thn_I (run_S (As := [.ref (z + (f_X0_snail σ j (f_X2_digit σ (k + 93) (nI a)))), .int (f_X2_number σ (k + 93) ((nI a) + 2))]) (rest := []) C (k_X5_goBackIfPossible l D cy z o d σ τ (f_X0_snail σ j (f_X2_digit σ (k + 93) (nI a))) (kr_X0_snail σ hk_j (f_X2_digit σ (k + 93) (nI a))) (f_X2_number σ (k + 93) ((nI a) + 2)) hG (number_bd _ _ _)) hP hS cw_X5_goBackIfPossible (mA3 (i := 76) rfl rfl) ⟨rfl, rfl⟩ ⟨Nat.le_of_ble_eq_true rfl, Nat.le_of_ble_eq_true rfl⟩ rfl (Nat.le_of_ble_eq_true rfl) hl.1 ⟨Nat.zero_le _, Nat.zero_le _⟩ dX5_follow_61) hS (fun H locs hP hS => ?_)
      exact ret_I C hP hS (nz_X5_goBackIfPossible _ _ _) rfl (by unfold f_X5_follow; rw [if_neg c_29, if_pos c_47]) (by unfold s_X5_follow; rw [if_neg c_29, if_pos c_47]) rfl dX5_follow_64
  · refine lv_aload_n hx hb dX5_follow_32 rfl (lv_at hl 1 rfl) ?_
    refine lv_aload_n hx hb dX5_follow_33 rfl (lv_at hl 3 rfl) ?_
    refine gf_X5_87 C hP hk_j dX5_follow_34 ?_
    refine thn_I (run_V (As := [.int (σ j 5)]) (rest := []) C (k_X4_passMark l D cy z o d σ τ (kr_X0_snail σ hk_j (f_X2_digit σ (k + 93) (nI a))) (σ j 5)) hP hS cw_X4_passMark (mA2 (i := 205) rfl rfl) (kr_X0_snail σ hk_j (f_X2_digit σ (k + 93) (nI a))) ⟨rfl, rfl⟩ ⟨Nat.le_of_ble_eq_true rfl, Nat.le_of_ble_eq_true rfl⟩ rfl (Nat.le_of_ble_eq_true rfl) hl.1 ⟨Nat.zero_le _, Nat.zero_le _⟩ dX5_follow_37) hS (fun H locs hP hS => ?_)
    refine lv_pop hx hb dX5_follow_40 rfl ?_
    refine lv_iconst (v := 1) hx hb dX5_follow_41 (by decide) ?_
    exact ret_I C hP hS nar_z1 rfl (by unfold f_X5_follow; rw [if_pos c_29]) (by unfold s_X5_follow; rw [if_pos c_29]) rfl dX5_follow_42

theorem fr_gfeelAll {P : Nat → Prop} {σ : Sg} {k j : Nat} {x : Int32} {b : Nat} (hk : P j) (hk1 : P (j + 1)) (hk2 : P (j + 2)) : ∀ (n i : Nat) (σ' : Sg), Fr P σ σ' → Fr P σ (gs_X5_feelAll k j x b n i σ') := by
  intro n
  induction n with
  | zero => exact fun i σ' h => h
  | succ n ih =>
    intro i σ' h
    rw [gs_X5_feelAll]
    repeat' split
    · exact h
    · exact h
    · exact ih _ _ (fr_sense h hk hk1 hk2)
theorem LGA_gfeelAll {k j : Nat} {x : Int32} {b : Nat} (hj : kd j = 4) : ∀ (n i : Nat) (σ : Sg), LGA σ → LGA (gs_X5_feelAll k j x b n i σ) := by
  intro n
  induction n with
  | zero => exact fun i σ' h => h
  | succ n ih =>
    intro i σ h
    rw [gs_X5_feelAll]
    repeat' split
    · exact h
    · exact h
    · exact ih _ _ (LGA_sense h hj)
theorem fr_follow {P : Nat → Prop} {σ : Sg} {k j a : Nat} (h : ∀ x, P (f_X0_snail σ j x) ∧ P (f_X0_snail σ j x + 1) ∧ P (f_X0_snail σ j x + 2)) : Fr P σ (s_X5_follow σ k j a) := by
  unfold s_X5_follow s_X5_goBackIfPossible s_X5_feelAll
  repeat' split
  · exact fr_passMark Fr.rf (h _).1
  · exact Fr.rf
  · exact fr_retrace Fr.rf (h _).1 (h _).2.1
  · exact fr_gfeelAll (h _).1 (h _).2.1 (h _).2.2 _ _ _ Fr.rf
theorem LGA_follow {σ : Sg} {k j a : Nat} (hG : LGA σ) (hj : kd j = 0) : LGA (s_X5_follow σ k j a) := by
  have hs := fun x => kr_X0_snail σ hj x
  unfold s_X5_follow s_X5_goBackIfPossible s_X5_feelAll
  repeat' split
  · exact LGA_passMark hG (hs _)
  · exact hG
  · exact LGA_retrace hG (hs _)
  · exact LGA_gfeelAll (hs _) _ _ _ hG
theorem TXA_follow {σ : Sg} {k j a : Nat} (hT : TXA σ) (hj : kd j = 0) : TXA (s_X5_follow σ k j a) := by
  refine hT.fr (P := fun q => kd q ≠ 2) (fr_follow fun x => ?_) (fun q hq h => h hq)
  have h4 := kr_X0_snail σ hj x
  have h1 := kd4_1 h4
  have h7 : kd (f_X0_snail σ j x + 2) = 7 := kd1_1 h1
  exact ⟨by omega, by omega, by omega⟩
end
section
theorem cw_X5_firstFailing : cwVt yX5_firstFailing cX5_firstFailing 5 (some .int) 5 1 := ⟨(mA3 (i := 56) rfl rfl), (mA0 (i := 9) rfl rfl), (mA1 (i := 1) rfl rfl), (mA3 (i := 57) rfl rfl), by decide +kernel, ⟨_, rfl, rfl⟩, by decide⟩
abbrev rm_X5_firstFailing : Room := { frames := 6, cells := 0, slots := 0, locals := 134 }
def gf_X5_firstFailing (k j b : Nat) : Nat → Nat → Nat → Sg → Int32
  | 0, _, _, _ => 0
  | n + 1, a, i, σ =>
    if b ≤ i then
      (-1)
    else
      if (f_X5_follow σ k j a) = 0 then
        nI i
      else
        gf_X5_firstFailing k j b n (EO (s_X5_follow σ k j a) (k + 93) a + 1) (i + 1) (s_X5_follow σ k j a)
def gs_X5_firstFailing (k j b : Nat) : Nat → Nat → Nat → Sg → Sg
  | 0, _, _, σ => σ
  | n + 1, a, i, σ =>
    if b ≤ i then
      σ
    else
      if (f_X5_follow σ k j a) = 0 then
        s_X5_follow σ k j a
      else
        gs_X5_firstFailing k j b n (EO (s_X5_follow σ k j a) (k + 93) a + 1) (i + 1) (s_X5_follow σ k j a)
set_option maxHeartbeats 4000000 in
set_option maxRecDepth 100000 in
theorem lp_X5_firstFailing {p : Program} {l : Launch} {e : Env} {s : State} {m : MethodId} {args : Array Value} {below : List Frame} {meth : Method} {c : Code} {D : va_G} {cy : Nat → ClassId} {z : Nat} (C : Bd p s m args meth c cX5_firstFailing 5 (some .int) RX5 D cy z) (o : Int64) (d : UInt64) {k : Nat} (hk : kd k = 5) {j : Nat} (hk_j : kd j = 0) (b : Nat) {r9 : Int32} {σ9 : Sg} :
    ∀ (n : Nat) (a : Nat) (i : Nat) (σ τ : Sg) (H : Heap) (locs : List Loc), (LGA σ) → (TXA σ) → (b ≤ 82 ∧ a ≤ 81 ∧ i ≤ b ∧ b + 1 ≤ i + n) → (gf_X5_firstFailing k j b n a i σ = r9) → (gs_X5_firstFailing k j b n a i σ = σ9) → WP D cy z σ τ o d H → va_S (fz z) s.heap H locs → ∀ ls : Array Slot, lv_has ls 5 [(0, .ref (z + k)), (1, .ref (z + j)), (2, .int (nI b)), (3, .int (nI a)), (4, .int (nI i))] → W p l e rm_X5_firstFailing s m args below meth c H locs 0 0 (MQ below (PoI D cy z o d r9 σ9 τ) args s 0 0 (fz z)) (F0 m 13 ls []) := by
  obtain ⟨hx, hb, hr, hml, hown, hW, hlocks, hAm⟩ := id C
  intro n
  induction n with
  | zero =>
    intro _ _ σ τ H locs hG hT hn9 _ _ hP hS ls hl
    exact absurd hn9 (by omega)
  | succ n ih =>
    intro a i σ τ H locs hG hT hn9 hr9 hs9 hP hS ls hl
    refine lv_iload hx hb dX5_firstFailing_13 (lv_at hl 4 rfl) ?_
    refine lv_iload_n hx hb dX5_firstFailing_15 rfl (lv_at hl 2 rfl) ?_
    refine lv_icmp_ge (tgt := 48) hx hb dX5_firstFailing_16 (by decide) (fun c_16 => ?_) (fun c_16 => ?_)
    · have d_16 : b ≤ i := (cI_le rfl rfl (by omega) (by omega)).mp c_16
      refine lv_iconst (v := (-1)) hx hb dX5_firstFailing_48 (by decide) ?_
      exact ret_I C hP hS (nar_i _) rfl (by rw [← hr9, gf_X5_firstFailing]; rw [if_pos d_16]) (by rw [← hs9, gs_X5_firstFailing]; rw [if_pos d_16]) rfl dX5_firstFailing_49
    · have d_16 : ¬ (b ≤ i) := fun h9 => c_16 ((cI_le rfl rfl (by omega) (by omega)).mpr h9)
      refine lv_aload_n hx hb dX5_firstFailing_19 rfl (lv_at hl 0 rfl) ?_
      refine lv_aload_n hx hb dX5_firstFailing_20 rfl (lv_at hl 1 rfl) ?_
      refine lv_iload_n hx hb dX5_firstFailing_21 rfl (lv_at hl 3 rfl) ?_
      refine thn_I (run_V (As := [.ref (z + j), .int (nI a)]) (rest := []) C (k_X5_follow l D cy z o d σ τ hk j hk_j a hG hT (by omega)) hP hS cw_X5_follow (mA3 (i := 62) rfl rfl) hk ⟨rfl, rfl⟩ ⟨Nat.le_of_ble_eq_true rfl, Nat.le_of_ble_eq_true rfl⟩ rfl (Nat.le_of_ble_eq_true rfl) hl.1 ⟨Nat.zero_le _, Nat.zero_le _⟩ dX5_firstFailing_22) hS (fun H locs hP hS => ?_)
      refine lv_if_ne (tgt := 31) hx hb dX5_firstFailing_25 (by decide) (fun c_25 => ?_) (fun c_25 => ?_)
      · refine lv_aload_n hx hb dX5_firstFailing_31 rfl (lv_at hl 0 rfl) ?_
        refine gf_X5_32 C hP hk dX5_firstFailing_32 ?_
        refine lv_iload_n hx hb dX5_firstFailing_35 rfl (lv_at hl 3 rfl) ?_
        refine thn_I (run_V (As := [.int (nI a)]) (rest := []) C (k_X2_endOfOrder l D cy z o d (s_X5_follow σ k j a) τ (kd5_93 hk) a (TXA_follow hT hk_j) (by omega)) hP hS cw_X2_endOfOrder (mA3 (i := 79) rfl rfl) (kd5_93 hk) ⟨rfl, rfl⟩ ⟨Nat.le_of_ble_eq_true rfl, Nat.le_of_ble_eq_true rfl⟩ rfl (Nat.le_of_ble_eq_true rfl) hl.1 ⟨Nat.zero_le _, Nat.zero_le _⟩ dX5_firstFailing_36) hS (fun H locs hP hS => ?_)
        have he9 := (eo_of (a := a) (TXA_follow (k := k) (a := a) hT hk_j) (kd5_93 hk)).2
        rw [(eo_of (TXA_follow hT hk_j) (kd5_93 hk)).1]
        refine lv_iconst (v := 1) hx hb dX5_firstFailing_39 (by decide) ?_
        refine lv_iadd hx hb dX5_firstFailing_40 ?_
        rw [nI_1]
        refine lv_istore_n (lv' := [(3, .int (nI (EO (s_X5_follow σ k j a) (k + 93) a + 1))), (0, .ref (z + k)), (1, .ref (z + j)), (2, .int (nI b)), (4, .int (nI i))]) hx hb dX5_firstFailing_41 rfl hl (by decide) rfl (fun ls hl => ?_)
        refine lv_iinc (v := nI (i + 1)) (lv' := [(4, .int (nI (i + 1))), (3, .int (nI (EO (s_X5_follow σ k j a) (k + 93) a + 1))), (0, .ref (z + k)), (1, .ref (z + j)), (2, .int (nI b))]) hx hb dX5_firstFailing_42 hl (k := 4) rfl (nI_1 i) (by decide) rfl (fun ls hl => ?_)
        refine lv_goto (tgt := 13) hx hb dX5_firstFailing_45 (by decide) ?_
        exact ih (EO (s_X5_follow σ k j a) (k + 93) a + 1) (i + 1) (s_X5_follow σ k j a) τ _ _ (LGA_follow hG hk_j) (TXA_follow hT hk_j) (⟨by omega, by omega, by omega, by omega⟩) (by rw [← hr9, gf_X5_firstFailing]; rw [if_neg d_16, if_neg c_25]) (by rw [← hs9, gs_X5_firstFailing]; rw [if_neg d_16, if_neg c_25]) hP hS ls (lv_sub hl [2, 3, 4, 1, 0] rfl)
      · refine lv_iload hx hb dX5_firstFailing_28 (lv_at hl 4 rfl) ?_
        exact ret_I C hP hS (nar_i _) rfl (by rw [← hr9, gf_X5_firstFailing]; rw [if_neg d_16, if_pos c_25]) (by rw [← hs9, gs_X5_firstFailing]; rw [if_neg d_16, if_pos c_25]) rfl dX5_firstFailing_30
def f_X5_firstFailing (σ : Sg) (k : Nat) (j : Nat) : Int32 :=
  gf_X5_firstFailing k j (OR σ (k + 93)) 83 0 0 σ
def s_X5_firstFailing (σ : Sg) (k : Nat) (j : Nat) : Sg :=
  gs_X5_firstFailing k j (OR σ (k + 93)) 83 0 0 σ
set_option maxHeartbeats 4000000 in
set_option maxRecDepth 100000 in
theorem k_X5_firstFailing (l : Launch) (D : va_G) (cy : Nat → ClassId) (z : Nat) (o : Int64) (d : UInt64) (σ τ : Sg) {k : Nat} (hk : kd k = 5) (j : Nat) (hk_j : kd j = 0) (hG : LGA σ) (hT : TXA σ) : KI l yX5_firstFailing cX5_firstFailing 5 (some .int) rm_X5_firstFailing D cy z [.ref (z + k), .ref (z + j)] o d σ τ (f_X5_firstFailing σ k j) (s_X5_firstFailing σ k j) τ := by
  refine met_of RX5 (plainFor_of_name (by decide)) rfl (Nat.le_of_ble_eq_true rfl) ?_
  intro p e s m args below meth c C hP hS ls hl
  obtain ⟨hx, hb, hr, hml, hown, hW, hlocks, hAm⟩ := id C
  have hl : lv_has ls 5 [(0, .ref (z + k)), (1, .ref (z + j))] := hl
  refine lv_aload_n hx hb dX5_firstFailing_0 rfl (lv_at hl 0 rfl) ?_
  refine gf_X5_32 C hP hk dX5_firstFailing_1 ?_
  refine thn_I (run_V (As := []) (rest := []) C (k_X2_orders l D cy z o d σ τ (kd5_93 hk) hT) hP hS cw_X2_orders (mA3 (i := 58) rfl rfl) (kd5_93 hk) ⟨rfl, rfl⟩ ⟨Nat.le_of_ble_eq_true rfl, Nat.le_of_ble_eq_true rfl⟩ rfl (Nat.le_of_ble_eq_true rfl) hl.1 ⟨Nat.zero_le _, Nat.zero_le _⟩ dX5_firstFailing_4) hS (fun H locs hP hS => ?_)
  have ho9 := (or_of (σ := σ) (k := k + 93)).2
  rw [(or_of (σ := σ) (k := k + 93)).1]
  refine lv_istore_n (lv' := [(2, .int (nI (OR σ (k + 93)))), (0, .ref (z + k)), (1, .ref (z + j))]) hx hb dX5_firstFailing_7 rfl hl (by decide) rfl (fun ls hl => ?_)
  refine lv_iconst (v := 0) hx hb dX5_firstFailing_8 (by decide) ?_
  refine lv_istore_n (lv' := [(3, .int 0), (2, .int (nI (OR σ (k + 93)))), (0, .ref (z + k)), (1, .ref (z + j))]) hx hb dX5_firstFailing_9 rfl hl (by decide) rfl (fun ls hl => ?_)
  refine lv_iconst (v := 0) hx hb dX5_firstFailing_10 (by decide) ?_
  refine lv_istore (lv' := [(4, .int 0), (3, .int 0), (2, .int (nI (OR σ (k + 93)))), (0, .ref (z + k)), (1, .ref (z + j))]) hx hb dX5_firstFailing_11 hl (by decide) rfl (fun ls hl => ?_)
  exact lp_X5_firstFailing C o d hk hk_j (OR σ (k + 93)) (83) 0 0 σ τ _ _ hG hT (⟨by omega, by omega, by omega, by omega⟩) rfl rfl hP hS ls (lv_sub hl [3, 4, 2, 1, 0] rfl)
end
section
theorem cw_X5_leader : cwVt yX5_leader cX5_leader 3 (some .int) 5 0 := ⟨(mA1 (i := 236) rfl rfl), (mA1 (i := 237) rfl rfl), (mA1 (i := 1) rfl rfl), (mA1 (i := 238) rfl rfl), by decide +kernel, ⟨_, rfl, rfl⟩, by decide⟩
abbrev rm_X5_leader : Room := { frames := 1, cells := 0, slots := 0, locals := 21 }
def gf_X5_leader (σ : Sg) (k : Nat) : Nat → Int32 → Nat → Int32
  | 0, _, _ => 0
  | n + 1, x, i =>
    if 4 ≤ i then
      x
    else
      if (σ (f_X0_snail σ (k + 1) (nI i)) 2) ≤ (σ (f_X0_snail σ (k + 1) x) 2) then
        gf_X5_leader σ k n x (i + 1)
      else
        gf_X5_leader σ k n (nI i) (i + 1)
set_option maxHeartbeats 4000000 in
set_option maxRecDepth 100000 in
theorem lp_X5_leader {p : Program} {l : Launch} {e : Env} {s : State} {m : MethodId} {args : Array Value} {below : List Frame} {meth : Method} {c : Code} {D : va_G} {cy : Nat → ClassId} {z : Nat} (C : Bd p s m args meth c cX5_leader 3 (some .int) RX5 D cy z) (o : Int64) (d : UInt64) {k : Nat} (hk : kd k = 5)  {r9 : Int32} :
    ∀ (n : Nat) (x : Int32) (i : Nat) (σ τ : Sg) (H : Heap) (locs : List Loc), (i ≤ 4 ∧ 5 ≤ i + n) → (gf_X5_leader σ k n x i = r9) → WP D cy z σ τ o d H → va_S (fz z) s.heap H locs → ∀ ls : Array Slot, lv_has ls 3 [(0, .ref (z + k)), (1, .int x), (2, .int (nI i))] → W p l e rm_X5_leader s m args below meth c H locs 0 0 (MQ below (PoI D cy z o d r9 σ τ) args s 0 0 (fz z)) (F0 m 4 ls []) := by
  obtain ⟨hx, hb, hr, hml, hown, hW, hlocks, hAm⟩ := id C
  intro n
  induction n with
  | zero =>
    intro _ _ σ τ H locs hn9 _ hP hS ls hl
    exact absurd hn9 (by omega)
  | succ n ih =>
    intro x i σ τ H locs hn9 hr9 hP hS ls hl
    refine lv_iload_n hx hb dX5_leader_4 rfl (lv_at hl 2 rfl) ?_
    refine lv_iconst (v := 4) hx hb dX5_leader_5 (by decide) ?_
    refine lv_icmp_ge (tgt := 42) hx hb dX5_leader_6 (by decide) (fun c_6 => ?_) (fun c_6 => ?_)
    · have d_6 : 4 ≤ i := (cI_le (a := 4) (b := i) rfl rfl (by omega) (by omega)).mp c_6
      refine lv_iload_n hx hb dX5_leader_42 rfl (lv_at hl 1 rfl) ?_
      exact ret_I C hP hS (nar_i _) rfl (by rw [← hr9, gf_X5_leader]; rw [if_pos d_6]) rfl rfl dX5_leader_43
    · have d_6 : ¬ (4 ≤ i) := fun h9 => c_6 ((cI_le (a := 4) (b := i) rfl rfl (by omega) (by omega)).mpr h9)
      refine lv_aload_n hx hb dX5_leader_9 rfl (lv_at hl 0 rfl) ?_
      refine gf_X5_10 C hP hk dX5_leader_10 ?_
      refine lv_iload_n hx hb dX5_leader_13 rfl (lv_at hl 2 rfl) ?_
      refine thn_R (run_V (As := [.int (nI i)]) (rest := []) C (k_X0_snail l D cy z o d σ τ (kd5_1 hk) (nI i)) hP hS cw_X0_snail (mA1 (i := 239) rfl rfl) (kd5_1 hk) ⟨rfl, rfl⟩ ⟨Nat.le_of_ble_eq_true rfl, Nat.le_of_ble_eq_true rfl⟩ rfl (Nat.le_of_ble_eq_true rfl) hl.1 ⟨Nat.zero_le _, Nat.zero_le _⟩ dX5_leader_14) hS (fun H locs hP hS => ?_)
      refine gf_X5_84 C hP (kr_X0_snail σ (kd5_1 hk) (nI i)) dX5_leader_17 ?_
      refine lv_aload_n hx hb dX5_leader_20 rfl (lv_at hl 0 rfl) ?_
      refine gf_X5_10 C hP hk dX5_leader_21 ?_
      refine lv_iload_n hx hb dX5_leader_24 rfl (lv_at hl 1 rfl) ?_
      refine thn_R (run_V (As := [.int x]) (rest := [.int (σ (f_X0_snail σ (k + 1) (nI i)) 2)]) C (k_X0_snail l D cy z o d σ τ (kd5_1 hk) x) hP hS cw_X0_snail (mA1 (i := 239) rfl rfl) (kd5_1 hk) ⟨rfl, rfl⟩ ⟨Nat.le_of_ble_eq_true rfl, Nat.le_of_ble_eq_true rfl⟩ rfl (Nat.le_of_ble_eq_true rfl) hl.1 ⟨Nat.zero_le _, Nat.zero_le _⟩ dX5_leader_25) hS (fun H locs hP hS => ?_)
      refine gf_X5_84 C hP (kr_X0_snail σ (kd5_1 hk) x) dX5_leader_28 ?_
      refine lv_icmp_le (tgt := 36) hx hb dX5_leader_31 (by decide) (fun c_31 => ?_) (fun c_31 => ?_)
      · refine lv_iinc (v := nI (i + 1)) (lv' := [(2, .int (nI (i + 1))), (0, .ref (z + k)), (1, .int x)]) hx hb dX5_leader_36 hl (k := 2) rfl (nI_1 i) (by decide) rfl (fun ls hl => ?_)
        refine lv_goto (tgt := 4) hx hb dX5_leader_39 (by decide) ?_
        exact ih x (i + 1) σ τ _ _ (⟨by omega, by omega⟩) (by rw [← hr9, gf_X5_leader]; rw [if_neg d_6, if_pos c_31]) hP hS ls (lv_sub hl [1, 2, 0] rfl)
      · refine lv_iload_n hx hb dX5_leader_34 rfl (lv_at hl 2 rfl) ?_
        refine lv_istore_n (lv' := [(1, .int (nI i)), (0, .ref (z + k)), (2, .int (nI i))]) hx hb dX5_leader_35 rfl hl (by decide) rfl (fun ls hl => ?_)
        refine lv_iinc (v := nI (i + 1)) (lv' := [(2, .int (nI (i + 1))), (1, .int (nI i)), (0, .ref (z + k))]) hx hb dX5_leader_36 hl (k := 2) rfl (nI_1 i) (by decide) rfl (fun ls hl => ?_)
        refine lv_goto (tgt := 4) hx hb dX5_leader_39 (by decide) ?_
        exact ih (nI i) (i + 1) σ τ _ _ (⟨by omega, by omega⟩) (by rw [← hr9, gf_X5_leader]; rw [if_neg d_6, if_neg c_31]) hP hS ls (lv_sub hl [2, 1, 0] rfl)
def f_X5_leader (σ : Sg) (k : Nat) : Int32 :=
  gf_X5_leader σ k 4 0 1
set_option maxHeartbeats 4000000 in
set_option maxRecDepth 100000 in
theorem k_X5_leader (l : Launch) (D : va_G) (cy : Nat → ClassId) (z : Nat) (o : Int64) (d : UInt64) (σ τ : Sg) {k : Nat} (hk : kd k = 5) : KI l yX5_leader cX5_leader 3 (some .int) rm_X5_leader D cy z [.ref (z + k)] o d σ τ (f_X5_leader σ k) σ τ := by
  refine met_of RX5 (plainFor_of_name (by decide)) rfl (Nat.le_of_ble_eq_true rfl) ?_
  intro p e s m args below meth c C hP hS ls hl
  obtain ⟨hx, hb, hr, hml, hown, hW, hlocks, hAm⟩ := id C
  have hl : lv_has ls 3 [(0, .ref (z + k))] := hl
  refine lv_iconst (v := 0) hx hb dX5_leader_0 (by decide) ?_
  refine lv_istore_n (lv' := [(1, .int 0), (0, .ref (z + k))]) hx hb dX5_leader_1 rfl hl (by decide) rfl (fun ls hl => ?_)
  refine lv_iconst (v := 1) hx hb dX5_leader_2 (by decide) ?_
  refine lv_istore_n (lv' := [(2, .int 1), (1, .int 0), (0, .ref (z + k))]) hx hb dX5_leader_3 rfl hl (by decide) rfl (fun ls hl => ?_)
  exact lp_X5_leader C o d hk  (4) 0 1 σ τ _ _ (⟨by omega, by omega⟩) rfl hP hS ls (lv_sub hl [2, 1, 0] rfl)

theorem cw_X5_clearText : cwVt yX5_clearText cX5_clearText 2 (some .int) 5 0 := ⟨(mA1 (i := 188) rfl rfl), (mA1 (i := 189) rfl rfl), (mA1 (i := 1) rfl rfl), (mA1 (i := 190) rfl rfl), by decide +kernel, ⟨_, rfl, rfl⟩, by decide⟩
abbrev rm_X5_clearText : Room := { frames := 0, cells := 0, slots := 0, locals := 0 }
def f_X5_clearText (σ : Sg) (k : Nat) : Int32 :=
  σ (k + 93) 1
def s_X5_clearText (σ : Sg) (k : Nat) : Sg :=
  up σ (k + 93) 1 0
set_option maxHeartbeats 4000000 in
set_option maxRecDepth 100000 in
theorem k_X5_clearText (l : Launch) (D : va_G) (cy : Nat → ClassId) (z : Nat) (o : Int64) (d : UInt64) (σ τ : Sg) {k : Nat} (hk : kd k = 5) : KI l yX5_clearText cX5_clearText 2 (some .int) rm_X5_clearText D cy z [.ref (z + k)] o d σ τ (f_X5_clearText σ k) (s_X5_clearText σ k) τ := by
  refine met_of RX5 (plainFor_of_name (by decide)) rfl (Nat.le_of_ble_eq_true rfl) ?_
  intro p e s m args below meth c C hP hS ls hl
  obtain ⟨hx, hb, hr, hml, hown, hW, hlocks, hAm⟩ := id C
  have hl : lv_has ls 2 [(0, .ref (z + k))] := hl
  refine lv_aload_n hx hb dX5_clearText_0 rfl (lv_at hl 0 rfl) ?_
  refine gf_X5_32 C hP hk dX5_clearText_1 ?_
  refine gf_X5_111 C hP (kd5_93 hk) dX5_clearText_4 ?_
  refine lv_istore_n (lv' := [(1, .int (σ (k + 93) 1)), (0, .ref (z + k))]) hx hb dX5_clearText_7 rfl hl (by decide) rfl (fun ls hl => ?_)
  refine lv_aload_n hx hb dX5_clearText_8 rfl (lv_at hl 1 rfl) ?_
  refine gf_X5_32 C hP hk dX5_clearText_9 ?_
  refine lv_iconst (v := 0) hx hb dX5_clearText_12 (by decide) ?_
  refine pf_X5_111 C hP hS (kd5_93 hk) dX5_clearText_13 (fun H locs hP hS => ?_)
  refine lv_iload_n hx hb dX5_clearText_16 rfl (lv_at hl 0 rfl) ?_
  exact ret_I C hP hS (nar_i _) rfl rfl rfl rfl dX5_clearText_17

theorem cw_X5_textError : cwVt yX5_textError cX5_textError 1 (some .int) 5 0 := ⟨(mA1 (i := 192) rfl rfl), (mA1 (i := 193) rfl rfl), (mA1 (i := 1) rfl rfl), (mA1 (i := 194) rfl rfl), by decide +kernel, ⟨_, rfl, rfl⟩, by decide⟩
abbrev rm_X5_textError : Room := { frames := 3, cells := 0, slots := 0, locals := 65 }
def f_X5_textError (σ : Sg) (k : Nat) : Int32 :=
  f_X2_firstError σ (k + 93)
set_option maxHeartbeats 4000000 in
set_option maxRecDepth 100000 in
theorem k_X5_textError (l : Launch) (D : va_G) (cy : Nat → ClassId) (z : Nat) (o : Int64) (d : UInt64) (σ τ : Sg) {k : Nat} (hk : kd k = 5) (hT : TXA σ) : KI l yX5_textError cX5_textError 1 (some .int) rm_X5_textError D cy z [.ref (z + k)] o d σ τ (f_X5_textError σ k) σ τ := by
  refine met_of RX5 (plainFor_of_name (by decide)) rfl (Nat.le_of_ble_eq_true rfl) ?_
  intro p e s m args below meth c C hP hS ls hl
  obtain ⟨hx, hb, hr, hml, hown, hW, hlocks, hAm⟩ := id C
  have hl : lv_has ls 1 [(0, .ref (z + k))] := hl
  refine lv_aload_n hx hb dX5_textError_0 rfl (lv_at hl 0 rfl) ?_
  refine gf_X5_32 C hP hk dX5_textError_1 ?_
  refine thn_I (run_V (As := []) (rest := []) C (k_X2_firstError l D cy z o d σ τ (kd5_93 hk) hT) hP hS cw_X2_firstError (mA1 (i := 195) rfl rfl) (kd5_93 hk) ⟨rfl, rfl⟩ ⟨Nat.le_of_ble_eq_true rfl, Nat.le_of_ble_eq_true rfl⟩ rfl (Nat.le_of_ble_eq_true rfl) hl.1 ⟨Nat.zero_le _, Nat.zero_le _⟩ dX5_textError_4) hS (fun H locs hP hS => ?_)
  exact ret_I C hP hS (nar_i _) rfl rfl rfl rfl dX5_textError_7

theorem cw_X5_takeSnapshot : cwVt yX5_takeSnapshot cX5_takeSnapshot 1 (some .int) 5 0 := ⟨(mA1 (i := 216) rfl rfl), (mA1 (i := 217) rfl rfl), (mA1 (i := 1) rfl rfl), (mA1 (i := 218) rfl rfl), by decide +kernel, ⟨_, rfl, rfl⟩, by decide⟩
abbrev rm_X5_takeSnapshot : Room := { frames := 3, cells := 0, slots := 0, locals := 64 }
def f_X5_takeSnapshot (σ : Sg) (k : Nat) : Int32 :=
  f_X0_sumOfPositions (up (s_X0_copyFrom σ (k + 27) (k + 1)) k 5 1) (k + 1)
def s_X5_takeSnapshot (σ : Sg) (k : Nat) : Sg :=
  up (s_X0_copyFrom σ (k + 27) (k + 1)) k 5 1
set_option maxHeartbeats 4000000 in
set_option maxRecDepth 100000 in
theorem k_X5_takeSnapshot (l : Launch) (D : va_G) (cy : Nat → ClassId) (z : Nat) (o : Int64) (d : UInt64) (σ τ : Sg) {k : Nat} (hk : kd k = 5) : KI l yX5_takeSnapshot cX5_takeSnapshot 1 (some .int) rm_X5_takeSnapshot D cy z [.ref (z + k)] o d σ τ (f_X5_takeSnapshot σ k) (s_X5_takeSnapshot σ k) τ := by
  refine met_of RX5 (plainFor_of_name (by decide)) rfl (Nat.le_of_ble_eq_true rfl) ?_
  intro p e s m args below meth c C hP hS ls hl
  obtain ⟨hx, hb, hr, hml, hown, hW, hlocks, hAm⟩ := id C
  have hl : lv_has ls 1 [(0, .ref (z + k))] := hl
  refine lv_aload_n hx hb dX5_takeSnapshot_0 rfl (lv_at hl 0 rfl) ?_
  refine gf_X5_19 C hP hk dX5_takeSnapshot_1 ?_
  refine lv_aload_n hx hb dX5_takeSnapshot_4 rfl (lv_at hl 0 rfl) ?_
  refine gf_X5_10 C hP hk dX5_takeSnapshot_5 ?_
  refine thn_V (run_V (As := [.ref (z + (k + 1))]) (rest := []) C (k_X0_copyFrom l D cy z o d σ τ (kd5_27 hk) (k + 1) (kd5_1 hk)) hP hS cw_X0_copyFrom (mA1 (i := 219) rfl rfl) (kd5_27 hk) ⟨rfl, rfl⟩ ⟨Nat.le_of_ble_eq_true rfl, Nat.le_of_ble_eq_true rfl⟩ rfl (Nat.le_of_ble_eq_true rfl) hl.1 ⟨Nat.zero_le _, Nat.zero_le _⟩ dX5_takeSnapshot_8) hS (fun H locs hP hS => ?_)
  refine lv_aload_n hx hb dX5_takeSnapshot_11 rfl (lv_at hl 0 rfl) ?_
  refine lv_iconst (v := 1) hx hb dX5_takeSnapshot_12 (by decide) ?_
  refine pf_X5_145 C hP hS hk nar_z1 (by decide) dX5_takeSnapshot_13 (fun H locs hP hS => ?_)
  refine lv_aload_n hx hb dX5_takeSnapshot_16 rfl (lv_at hl 0 rfl) ?_
  refine gf_X5_10 C hP hk dX5_takeSnapshot_17 ?_
  refine thn_I (run_V (As := []) (rest := []) C (k_X0_sumOfPositions l D cy z o d (up (s_X0_copyFrom σ (k + 27) (k + 1)) k 5 1) τ (kd5_1 hk)) hP hS cw_X0_sumOfPositions (mA1 (i := 231) rfl rfl) (kd5_1 hk) ⟨rfl, rfl⟩ ⟨Nat.le_of_ble_eq_true rfl, Nat.le_of_ble_eq_true rfl⟩ rfl (Nat.le_of_ble_eq_true rfl) hl.1 ⟨Nat.zero_le _, Nat.zero_le _⟩ dX5_takeSnapshot_20) hS (fun H locs hP hS => ?_)
  exact ret_I C hP hS (nar_i _) rfl rfl rfl rfl dX5_takeSnapshot_23

theorem cw_X5_counts : cwVt yX5_counts cX5_counts 1 (some .int) 5 0 := ⟨(mA2 (i := 4) rfl rfl), (mA2 (i := 5) rfl rfl), (mA1 (i := 1) rfl rfl), (mA2 (i := 6) rfl rfl), by decide +kernel, ⟨_, rfl, rfl⟩, by decide⟩
abbrev rm_X5_counts : Room := { frames := 0, cells := 0, slots := 0, locals := 0 }
def f_X5_counts (σ : Sg) (k : Nat) : Int32 :=
  σ (k + 1) 5
set_option maxHeartbeats 4000000 in
set_option maxRecDepth 100000 in
theorem k_X5_counts (l : Launch) (D : va_G) (cy : Nat → ClassId) (z : Nat) (o : Int64) (d : UInt64) (σ τ : Sg) {k : Nat} (hk : kd k = 5) : KI l yX5_counts cX5_counts 1 (some .int) rm_X5_counts D cy z [.ref (z + k)] o d σ τ (f_X5_counts σ k) σ τ := by
  refine met_of RX5 (plainFor_of_name (by decide)) rfl (Nat.le_of_ble_eq_true rfl) ?_
  intro p e s m args below meth c C hP hS ls hl
  obtain ⟨hx, hb, hr, hml, hown, hW, hlocks, hAm⟩ := id C
  have hl : lv_has ls 1 [(0, .ref (z + k))] := hl
  refine lv_aload_n hx hb dX5_counts_0 rfl (lv_at hl 0 rfl) ?_
  refine gf_X5_10 C hP hk dX5_counts_1 ?_
  refine gf_X5_87 C hP (kd5_1 hk) dX5_counts_4 ?_
  exact ret_I C hP hS (nar_i _) rfl rfl rfl rfl dX5_counts_7

theorem cw_X5_rule : cwVt yX5_rule cX5_rule 1 (some .int) 5 0 := ⟨(mA2 (i := 8) rfl rfl), (mA2 (i := 9) rfl rfl), (mA1 (i := 1) rfl rfl), (mA2 (i := 10) rfl rfl), by decide +kernel, ⟨_, rfl, rfl⟩, by decide⟩
abbrev rm_X5_rule : Room := { frames := 0, cells := 0, slots := 0, locals := 0 }
def f_X5_rule (σ : Sg) (k : Nat) : Int32 :=
  σ (k + 1) 4
set_option maxHeartbeats 4000000 in
set_option maxRecDepth 100000 in
theorem k_X5_rule (l : Launch) (D : va_G) (cy : Nat → ClassId) (z : Nat) (o : Int64) (d : UInt64) (σ τ : Sg) {k : Nat} (hk : kd k = 5) : KI l yX5_rule cX5_rule 1 (some .int) rm_X5_rule D cy z [.ref (z + k)] o d σ τ (f_X5_rule σ k) σ τ := by
  refine met_of RX5 (plainFor_of_name (by decide)) rfl (Nat.le_of_ble_eq_true rfl) ?_
  intro p e s m args below meth c C hP hS ls hl
  obtain ⟨hx, hb, hr, hml, hown, hW, hlocks, hAm⟩ := id C
  have hl : lv_has ls 1 [(0, .ref (z + k))] := hl
  refine lv_aload_n hx hb dX5_rule_0 rfl (lv_at hl 0 rfl) ?_
  refine gf_X5_10 C hP hk dX5_rule_1 ?_
  refine gf_X5_51 C hP (kd5_1 hk) dX5_rule_4 ?_
  exact ret_I C hP hS (nar_i _) rfl rfl rfl rfl dX5_rule_7

theorem cw_X5_recordedStates : cwVt yX5_recordedStates cX5_recordedStates 1 (some .int) 5 0 := ⟨(mA2 (i := 12) rfl rfl), (mA2 (i := 13) rfl rfl), (mA1 (i := 1) rfl rfl), (mA2 (i := 14) rfl rfl), by decide +kernel, ⟨_, rfl, rfl⟩, by decide⟩
abbrev rm_X5_recordedStates : Room := { frames := 0, cells := 0, slots := 0, locals := 0 }
def f_X5_recordedStates (σ : Sg) (k : Nat) : Int32 :=
  σ (k + 40) 5
set_option maxHeartbeats 4000000 in
set_option maxRecDepth 100000 in
theorem k_X5_recordedStates (l : Launch) (D : va_G) (cy : Nat → ClassId) (z : Nat) (o : Int64) (d : UInt64) (σ τ : Sg) {k : Nat} (hk : kd k = 5) : KI l yX5_recordedStates cX5_recordedStates 1 (some .int) rm_X5_recordedStates D cy z [.ref (z + k)] o d σ τ (f_X5_recordedStates σ k) σ τ := by
  refine met_of RX5 (plainFor_of_name (by decide)) rfl (Nat.le_of_ble_eq_true rfl) ?_
  intro p e s m args below meth c C hP hS ls hl
  obtain ⟨hx, hb, hr, hml, hown, hW, hlocks, hAm⟩ := id C
  have hl : lv_has ls 1 [(0, .ref (z + k))] := hl
  refine lv_aload_n hx hb dX5_recordedStates_0 rfl (lv_at hl 0 rfl) ?_
  refine gf_X5_25 C hP hk dX5_recordedStates_1 ?_
  refine gf_X5_139 C hP (kd5_40 hk) dX5_recordedStates_4 ?_
  exact ret_I C hP hS (nar_i _) rfl rfl rfl rfl dX5_recordedStates_7
end
section
/-! methods that throw: the tag of what is thrown (0: nothing), and the room by it -/
def exN : Nat → String
  | 1 => "java/lang/IndexOutOfBoundsException"
  | 2 => "java/lang/IllegalArgumentException"
  | _ => "java/lang/IllegalStateException"
abbrev exS : List String := ["java/lang/RuntimeException", "java/lang/Exception"]
def tcc (t : Nat) : Nat := if t = 0 then 0 else 1
def tcs (t : Nat) : Nat := if t = 0 then 0 else 6
theorem tcc_n {t : Nat} (h : t ≠ 0) : tcc t = 1 := if_neg h
theorem tcs_n {t : Nat} (h : t ≠ 0) : tcs t = 6 := if_neg h
abbrev rmT (f lo t : Nat) : Room := { frames := f, cells := tcc t, slots := tcs t, locals := lo }
def XP (D : va_G) (cy : Nat → ClassId) (z : Nat) (o : Int64) (d : UInt64) (t : Nat) (σ τ : Sg) : String → State → State → Prop := vx_X (fun _ : Unit => True) (fun E _ U => t ≠ 0 ∧ E = exN t ∧ WP D cy z σ τ o d U.heap) (fun q => z ≤ q)
def PoTI (D : va_G) (cy : Nat → ClassId) (z : Nat) (o : Int64) (d : UInt64) (t : Nat) (r : Int32) (σ τ : Sg) : Array Value → State → Outcome → State → Prop := va_Qi (fun (x : Int32) (_ : Unit) => t = 0 ∧ x = r) (fun _ U => WP D cy z σ τ o d U.heap) (fun q => z ≤ q)
def PoTV (D : va_G) (cy : Nat → ClassId) (z : Nat) (o : Int64) (d : UInt64) (t : Nat) (σ τ : Sg) : Array Value → State → Outcome → State → Prop := va_Qv (fun (_ : Unit) => t = 0) (fun _ U => WP D cy z σ τ o d U.heap) (fun q => z ≤ q)
def PoTR (D : va_G) (cy : Nat → ClassId) (z : Nat) (o : Int64) (d : UInt64) (t : Nat) (r : Nat) (σ τ : Sg) : Array Value → State → Outcome → State → Prop := va_Qr (fun (_ : Unit) => t = 0) (fun _ a U => a = z + r ∧ WP D cy z σ τ o d U.heap) (fun q => z ≤ q)
def PoTD (D : va_G) (cy : Nat → ClassId) (z : Nat) (o : Int64) (d : UInt64) (t : Nat) (r : UInt64) (σ τ : Sg) : Array Value → State → Outcome → State → Prop := va_Qd (fun (x : UInt64) (_ : Unit) => t = 0 ∧ x = r) (fun _ U => WP D cy z σ τ o d U.heap) (fun q => z ≤ q)
def KT (l : Launch) (y : MethodName) (bc : ByteArray) (nl : Nat) (rt : Option FieldType) (f lo : Nat) (D : va_G) (cy : Nat → ClassId) (z : Nat) (As : List Value) (o : Int64) (d : UInt64) (σ τ : Sg) (t : Nat) (Qc : Array Value → State → Outcome → State → Prop) (σ' τ' : Sg) : Prop :=
  vx_Met l y (.code y bc nl rt :: WA) (rmT f lo t) (Pre D cy z As σ τ o d) Qc (XP D cy z o d t σ' τ') (tcc t) (tcs t) (fz z)
def Nox (c : Code) : Prop := ∀ x ∈ c.exceptionTable.toList, False
theorem Nox.out {c : Code} (h : Nox c) (pc : Nat) : ∀ x ∈ c.exceptionTable.toList, covers x pc = false := fun x hx => (h x hx).elim
theorem metT_of {l : Launch} {y : MethodName} {bc : ByteArray} {nl : Nat} {rt : Option FieldType} {rm : Room} {D : va_G} {cy : Nat → ClassId} {z : Nat} {As : List Value} {o : Int64} {d : UInt64} {σ τ : Sg} {Qc : Array Value → State → Outcome → State → Prop} {XC : String → State → State → Prop} {mc ms : Nat} (own : String) (hy : plainName y.cls = true) (ho : y.cls = own) (hn : (lg_sl As).length ≤ nl)
    (body : ∀ p e s m args below meth c, Bd p s m args meth c bc nl rt own D cy z → Nox c → WP D cy z σ τ o d s.heap → va_S (fz z) s.heap s.heap [] → ∀ ls : Array Slot, lv_has ls nl (lv_args 0 As) → W p l e rm s m args below meth c s.heap [] 0 0 (vx_MQ below Qc XC args s mc ms (fz z)) (F0 m 0 ls [])) :
    vx_Met l y (.code y bc nl rt :: WA) rm (Pre D cy z As σ τ o d) Qc XC mc ms (fz z) := by
  refine vx_ofW (cc := bc) (maxL := nl) (ret := rt) hy rfl ?_
  intro p e s m args below meth c s₁ B hml hno hv
  obtain ⟨rfl, hP, hAm⟩ := hv
  have hts := atoms_spec (ws := .code y bc nl rt :: WA) B.pre
  have hown : s.vm.findClass own = some m.cls := by rw [← ho]; exact findClass_of_methodNamed B.named
  rw [lg_entry_eq]
  exact body p e s m As.toArray below meth c ⟨B.exec, B.bytes, B.returns, hml, hown, fun w h => hts w (List.mem_cons_of_mem _ h), B.notSynchronized, hAm⟩ hno hP va_S.rf _ (lv_entry As hn)
theorem WP.kept {D : va_G} {cy : Nat → ClassId} {z : Nat} {σ τ : Sg} {o : Int64} {d : UInt64} {H H1 : Heap} (h : WP D cy z σ τ o d H) (hq : ∀ q : Nat, q < H.size → H1[q]? = H[q]?) : WP D cy z σ τ o d H1 :=
  va_P.kept h (fun k q hk => hq q.1 (h k q hk).lt)
section RowsT
variable {p : Program} {l : Launch} {e : Env} {Rm : Room} {s : State} {m : MethodId} {args : Array Value} {below : List Frame} {meth : Method} {c : Code} {H : Heap} {locs : List Loc} {cells slots : Nat} {Q : State → Prop}
variable {cc : ByteArray} {nl : Nat} {rt : Option FieldType} {own : String} {D : va_G} {cy : Nat → ClassId} {z : Nat} {σ τ σ' τ' σ1 τ1 : Sg} {o : Int64} {d : UInt64} {pc : Nat} {ls : Array Slot} {rest st : List Value} {Qc : Array Value → State → Outcome → State → Prop} {f lo t t' : Nat}
/-- 'throw new E("..")' -/
theorem thr_X5 (C : Bd p s m args meth c cc nl rt RX5 D cy z) (hno : Nox c) (hfl : l.stackTraces = false) (hP : WP D cy z σ τ o d H) (hS : va_S (fz z) s.heap H locs) {ik is ic T : Nat} {text : String} (ht : t = T) (hT : T ≠ 0) (hst : (is, text) ∈ strW) (hk : Cond.classLink RX5 ik (exN T) ∈ WA) (hini : Cond.initialized (exN T) ∈ WA) (hcls : Bundle.fit (exN T) = true)
    (hat : ∀ w ∈ (vx_atS RX5 ic (exN T) exS).filter goodWord, w ∈ WA) (hbad : ∀ w ∈ (vx_atS RX5 ic (exN T) exS).filter (fun w => !goodWord w), w ∈ nestW) (hgood : ∀ w ∈ Cond.classLink RX5 ik (exN T) :: Cond.initialized (exN T) :: vx_atS RX5 ic (exN T) exS, vx_ot w = true) (hsz : ls.size = nl)
    (d0 : decode cc pc = .ok (.new ik, 3)) (d3 : decode cc (pc + 3) = .ok (.dup, 1)) (d4 : decode cc (pc + 4) = .ok (.ldc is, 2)) (d6 : decode cc (pc + 6) = .ok (.invokespecial ic, 3)) (d9 : decode cc (pc + 9) = .ok (.athrow, 1)) (hf5 : 6 ≤ f) (hlo : (rest.map fun v => v.category).sum + 82 ≤ lo) (hσ : σ = σ1) (hτ : τ = τ1) :
    W p l e (rmT f lo t) s m args below meth c H locs 0 0 (vx_MQ below Qc (XP D cy z o d t σ1 τ1) args s (tcc t) (tcs t) (fz z)) (F0 m pc ls rest) := by
  subst ht
  subst hσ
  subst hτ
  obtain ⟨hx, hb, hr, hml, hown, hW, hlocks, hAm⟩ := C
  obtain ⟨sa, hsa⟩ := hAm.2.2.1 _ hst
  have hA := hAm
  refine vx_throwS (A := fz z) hx hb hfl hown hcls (by decide) (hW _ hk) (hW _ hini) hsa (vx_hat (fun w h => hW w (hat w h)) hbad (fun w h => va_Nw.use (nw_onT (List.all_eq_true.mp nestW_ok w h)) (hAm.2.1 w h))) hgood hA.2.2.2.1 hA.2.2.2.2 hS (by rw [hml, hsz]) d0 d3 d4 d6 d9 (hno.out _) ?_ ?_ ?_ ?_ hlocks ?_ hS.2.2 ?_ ?_
  · show 2 + 3 < f
    omega
  · show _ + (13 * (2 + 1) + 43) ≤ lo
    omega
  · show 0 + 1 ≤ tcc t
    rw [tcc_n hT]
    exact Nat.le_refl _
  · show 0 + 6 ≤ tcs t
    rw [tcs_n hT]
    exact Nat.le_refl _
  · intro u hvm hz hq
    refine ⟨(), trivial, ⟨hT, rfl, hP.kept hq⟩, Nat.le_trans hS.1 hz, fun q h1 h2 => ?_⟩
    rw [hq q (Nat.lt_of_lt_of_le h1 hS.1)]
    exact hS.2.1 q h1 h2
  · rw [tcc_n hT]
    exact Nat.le_refl _
  · rw [tcs_n hT]
    exact Nat.le_refl _
theorem retT_I (C : Bd p s m args meth c cc nl rt own D cy z) {r v : Int32} {ty : FieldType} (hP : WP D cy z σ τ o d H) (hS : va_S (fz z) s.heap H locs) (hn : narrow ty (.int v) = .int v) (hrt : rt = some ty) (ht : t = 0) (hv : v = r) (hσ : σ = σ1) (hτ : τ = τ1) (hdg : decode cc pc = .ok (.ireturn, 1)) {XC : String → State → State → Prop} :
    W p l e Rm s m args below meth c H locs 0 0 (vx_MQ below (PoTI D cy z o d t r σ1 τ1) XC args s (tcc t) (tcs t) (fz z)) (F0 m pc ls [.int v]) := by
  obtain ⟨hx, hb, hr, hml, hown, hW, hlocks, hAm⟩ := C
  subst hσ
  subst hτ
  subst ht
  exact vx_ret (W.zret (ty := ty) hx hb (by rw [hr, hrt]) hn (fun t ht hW => ⟨⟨v, (), rfl, ⟨rfl, hv⟩, by show WP D cy z σ τ o d t.heap; rw [ht]; exact hP⟩, hS.F ht⟩) hS.2.2 hdg hlocks)
theorem retT_D (C : Bd p s m args meth c cc nl (some .double) own D cy z) {r v : UInt64} (hP : WP D cy z σ τ o d H) (hS : va_S (fz z) s.heap H locs) (ht : t = 0) (hv : v = r) (hσ : σ = σ1) (hτ : τ = τ1) (hdg : decode cc pc = .ok (.dreturn, 1)) {XC : String → State → State → Prop} :
    W p l e Rm s m args below meth c H locs 0 0 (vx_MQ below (PoTD D cy z o d t r σ1 τ1) XC args s (tcc t) (tcs t) (fz z)) (F0 m pc ls [.double v]) := by
  obtain ⟨hx, hb, hr, hml, hown, hW, hlocks, hAm⟩ := C
  subst hσ
  subst hτ
  subst ht
  exact vx_ret (W.dret hx hb hr (fun t ht hW => ⟨⟨v, (), rfl, ⟨rfl, hv⟩, by show WP D cy z σ τ o d t.heap; rw [ht]; exact hP⟩, hS.F ht⟩) hS.2.2 hdg hlocks)
theorem retT_V (C : Bd p s m args meth c cc nl none own D cy z) (hP : WP D cy z σ τ o d H) (hS : va_S (fz z) s.heap H locs) (ht : t = 0) (hσ : σ = σ1) (hτ : τ = τ1) (hdg : decode cc pc = .ok (.return_, 1)) {XC : String → State → State → Prop} :
    W p l e Rm s m args below meth c H locs 0 0 (vx_MQ below (PoTV D cy z o d t σ1 τ1) XC args s (tcc t) (tcs t) (fz z)) (F0 m pc ls []) := by
  obtain ⟨hx, hb, hr, hml, hown, hW, hlocks, hAm⟩ := C
  subst hσ
  subst hτ
  subst ht
  exact vx_ret (W.vret hx hb hr (fun t ht hW => ⟨⟨(), rfl, rfl, by show WP D cy z σ τ o d t.heap; rw [ht]; exact hP⟩, hS.F ht⟩) hS.2.2 hdg hlocks)
theorem retT_R (C : Bd p s m args meth c cc nl rt own D cy z) {r v : Nat} {nm : String} (hP : WP D cy z σ τ o d H) (hS : va_S (fz z) s.heap H locs) (hrt : rt = some (.object nm)) (ht : t = 0) (hv : v = r) (hσ : σ = σ1) (hτ : τ = τ1) (hdg : decode cc pc = .ok (.areturn, 1)) {XC : String → State → State → Prop} :
    W p l e Rm s m args below meth c H locs 0 0 (vx_MQ below (PoTR D cy z o d t r σ1 τ1) XC args s (tcc t) (tcs t) (fz z)) (F0 m pc ls [.ref (z + v)]) := by
  obtain ⟨hx, hb, hr, hml, hown, hW, hlocks, hAm⟩ := C
  subst hσ
  subst hτ
  subst hv
  subst ht
  exact vx_ret (W.aret (rt := .object nm) hx hb (by rw [hr, hrt]) (Or.inl ⟨_, rfl⟩) (Or.inr ⟨_, rfl⟩) (fun t ht hW => ⟨⟨(), _, rfl, rfl, rfl, by show WP D cy z σ τ o d t.heap; rw [ht]; exact hP⟩, hS.F ht⟩) hS.2.2 hdg hlocks)
/-- a call of a method that may throw -/
theorem runT_V (C : Bd p s m args meth c cc nl rt own D cy z) {y : MethodName} {bc : ByteArray} {nl' : Nat} {rt' : Option FieldType} {As : List Value} {kr ci idx : Nat}
    (hM : KT l y bc nl' rt' f lo D cy z (.ref (z + kr) :: As) o d σ τ t Qc σ' τ') (hP : WP D cy z σ τ o d H) (hS : va_S (fz z) s.heap H locs) (cw : cwVt y bc nl' rt' ci As.length) (ml : Cond.methodLink own idx y ∈ WA) (hk : kd kr = ci)
    (hR : f + 1 ≤ Rm.frames ∧ 8 + (nl' + 11) + lo ≤ Rm.locals) (hst : st = As.reverse ++ .ref (z + kr) :: rest) (hrest : (rest.map fun v => v.category).sum ≤ 8) (hsz : ls.size = nl) (hcs : cells + tcc t ≤ Rm.cells ∧ slots + tcs t ≤ Rm.slots) (hdg : decode cc pc = .ok (.invokevirtual idx, 3)) :
    vx_Run p l e Rm s m args below meth c H locs cells slots (tcc t) (tcs t) (F0 m pc ls st) rest (Qc (Value.ref (z + kr) :: As).toArray) (XP D cy z o d t σ' τ') (fz z) := by
  obtain ⟨hx, hb, hr, hml, hown, hW, hlocks, hAm⟩ := C
  obtain ⟨w1, w2, w3, w4, ⟨hy1, hy2, hy3⟩, ⟨q, hq1, hq2⟩, h6⟩ := cw
  obtain ⟨fs, he⟩ := ent_obj (z := z) (cy := cy) (σ := σ) (τ := τ) (o := o) (d := d) hk h6
  have hrecv : ∃ cell : Cell, H[z + kr]? = some cell ∧ cell.vm.isStatics = false ∧ s.vm.findClass y.cls = some cell.cls := by
    rw [← hq2]
    exact va_recv hAm.1 hP (ci := ci) (q0 := kr) hq1 (by rw [mwl_at (kd_lt (by omega)), he])
  exact vx_runV (As := As) (rest := rest) ⟨hx, hb, hml, hown, hW⟩ hM (cwV (C := y.cls) As.length hW (wa_app (ws := [.methodLink own idx y, .instanceMethod y, .selects y.cls y y, .initialized y.cls]) (by
    intro w hw
    simp only [List.mem_cons, List.not_mem_nil, or_false] at hw
    rcases hw with rfl | rfl | rfl | rfl <;> assumption) w4) rfl rfl rfl ⟨rfl, hy1, hy2, hy3⟩ hR)
    ⟨Pre.blind, hrecv, fun U hU hW' => ⟨rfl, by rw [hU]; exact hP, hAm.warm hW' (by rw [hU]; exact hS.2.1)⟩⟩ rfl rfl hsz hst (lv_room hrest) hdg hcs
theorem runT_S (C : Bd p s m args meth c cc nl rt own D cy z) {y : MethodName} {bc : ByteArray} {nl' : Nat} {rt' : Option FieldType} {As : List Value} {idx : Nat}
    (hM : KT l y bc nl' rt' f lo D cy z As o d σ τ t Qc σ' τ') (hP : WP D cy z σ τ o d H) (hS : va_S (fz z) s.heap H locs) (cw : cwSt y bc nl' rt' As.length) (ml : Cond.methodLink own idx y ∈ WA)
    (hR : f + 1 ≤ Rm.frames ∧ 8 + (nl' + 11) + lo ≤ Rm.locals) (hst : st = As.reverse ++ rest) (hrest : (rest.map fun v => v.category).sum ≤ 8) (hsz : ls.size = nl) (hcs : cells + tcc t ≤ Rm.cells ∧ slots + tcs t ≤ Rm.slots) (hdg : decode cc pc = .ok (.invokestatic idx, 3)) :
    vx_Run p l e Rm s m args below meth c H locs cells slots (tcc t) (tcs t) (F0 m pc ls st) rest (Qc As.toArray) (XP D cy z o d t σ' τ') (fz z) := by
  obtain ⟨hx, hb, hr, hml, hown, hW, hlocks, hAm⟩ := C
  obtain ⟨w1, w3, w4, hy1, hy2, hy3⟩ := cw
  exact vx_runS (As := As) (rest := rest) ⟨hx, hb, hml, hown, hW⟩ hM (va_cwS As.length hW (wa_app (ws := [.methodLink own idx y, .static y, .initialized y.cls]) (by
    intro w hw
    simp only [List.mem_cons, List.not_mem_nil, or_false] at hw
    rcases hw with rfl | rfl | rfl <;> assumption) w4) rfl rfl rfl ⟨hy1, hy2, hy3⟩ hR)
    ⟨Pre.blind, fun U hU hW' => ⟨rfl, by rw [hU]; exact hP, hAm.warm hW' (by rw [hU]; exact hS.2.1)⟩⟩ rfl rfl hsz hst (lv_room hrest) hdg hcs
theorem tcc_0 (h : t = 0) (hc : cells ≤ Rm.cells ∧ slots ≤ Rm.slots) : cells + tcc t ≤ Rm.cells ∧ slots + tcs t ≤ Rm.slots := by
  subst h
  exact hc
theorem tcc_e (h : t' = t) : 0 + tcc t ≤ (rmT f lo t').cells ∧ 0 + tcs t ≤ (rmT f lo t').slots := by
  subst h
  exact ⟨by show 0 + tcc t' ≤ tcc t'; omega, by show 0 + tcs t' ≤ tcs t'; omega⟩
/-- it returns -/
theorem okT_I {st0 : List Value} {a : Array Value} {r : Int32} (h0 : t = 0) (hr : vx_Run p l e Rm s m args below meth c H locs cells slots (tcc t) (tcs t) (F0 m pc ls st0) rest (PoTI D cy z o d t r σ' τ' a) (XP D cy z o d t σ' τ') (fz z)) (hS : va_S (fz z) s.heap H locs)
    (kk : ∀ (H1 : Heap) (locs1 : List Loc), WP D cy z σ' τ' o d H1 → va_S (fz z) s.heap H1 locs1 → W p l e Rm s m args below meth c H1 locs1 cells slots Q (F0 m (pc + 3) ls (.int r :: rest))) : W p l e Rm s m args below meth c H locs cells slots Q (F0 m pc ls st0) := by
  subst h0
  exact vx_calli hr hS (fun _ _ h => h) (fun _ h => h) (fun _ _ h => h) (fun E ce q9 u t H1 locs1 _ _ _ hB => (hB.1 rfl).elim) (fun r1 u t H1 locs1 ht hvm hpost hB hz hk1 hS1 => by
    obtain ⟨-, rfl⟩ := hpost
    rw [ht] at hB
    exact kk H1 locs1 hB hS1)
theorem okT_D {st0 : List Value} {a : Array Value} {r : UInt64} (h0 : t = 0) (hr : vx_Run p l e Rm s m args below meth c H locs cells slots (tcc t) (tcs t) (F0 m pc ls st0) rest (PoTD D cy z o d t r σ' τ' a) (XP D cy z o d t σ' τ') (fz z)) (hS : va_S (fz z) s.heap H locs)
    (kk : ∀ (H1 : Heap) (locs1 : List Loc), WP D cy z σ' τ' o d H1 → va_S (fz z) s.heap H1 locs1 → W p l e Rm s m args below meth c H1 locs1 cells slots Q (F0 m (pc + 3) ls (.double r :: rest))) : W p l e Rm s m args below meth c H locs cells slots Q (F0 m pc ls st0) := by
  subst h0
  exact vx_calld hr hS (fun _ _ h => h) (fun _ h => h) (fun _ _ h => h) (fun E ce q9 u t H1 locs1 _ _ _ hB => (hB.1 rfl).elim) (fun r1 u t H1 locs1 ht hvm hpost hB hz hk1 hS1 => by
    obtain ⟨-, rfl⟩ := hpost
    rw [ht] at hB
    exact kk H1 locs1 hB hS1)
theorem okT_V {st0 : List Value} {a : Array Value} (h0 : t = 0) (hr : vx_Run p l e Rm s m args below meth c H locs cells slots (tcc t) (tcs t) (F0 m pc ls st0) rest (PoTV D cy z o d t σ' τ' a) (XP D cy z o d t σ' τ') (fz z)) (hS : va_S (fz z) s.heap H locs)
    (kk : ∀ (H1 : Heap) (locs1 : List Loc), WP D cy z σ' τ' o d H1 → va_S (fz z) s.heap H1 locs1 → W p l e Rm s m args below meth c H1 locs1 cells slots Q (F0 m (pc + 3) ls rest)) : W p l e Rm s m args below meth c H locs cells slots Q (F0 m pc ls st0) := by
  subst h0
  exact vx_callv hr hS (fun _ _ h => h) (fun _ h => h) (fun _ _ h => h) (fun E ce q9 u t H1 locs1 _ _ _ hB => (hB.1 rfl).elim) (fun u t H1 locs1 ht hvm hpost hB hz hk1 hS1 => by
    rw [ht] at hB
    exact kk H1 locs1 hB hS1)
theorem okT_R {st0 : List Value} {a : Array Value} {r : Nat} (h0 : t = 0) (hr : vx_Run p l e Rm s m args below meth c H locs cells slots (tcc t) (tcs t) (F0 m pc ls st0) rest (PoTR D cy z o d t r σ' τ' a) (XP D cy z o d t σ' τ') (fz z)) (hS : va_S (fz z) s.heap H locs)
    (kk : ∀ (H1 : Heap) (locs1 : List Loc), WP D cy z σ' τ' o d H1 → va_S (fz z) s.heap H1 locs1 → W p l e Rm s m args below meth c H1 locs1 cells slots Q (F0 m (pc + 3) ls (.ref (z + r) :: rest))) : W p l e Rm s m args below meth c H locs cells slots Q (F0 m pc ls st0) := by
  subst h0
  intro T hT X
  rcases hr T hT X with ⟨v, st₀, t, T', L, h0, X', hL, e1, e2, ⟨⟨u, ra, hv, hp, hb⟩, hz, hk⟩, st⟩ | ⟨q, st₀, t, T', L, E, ce, h0, X', hL, e1, e2, ⟨u, hp, hb, hF⟩, hce, hcv, hcl, st⟩
  · cases hv
    obtain ⟨rfl, hB⟩ := hb
    rw [h0] at hz hk
    rw [← e1] at hB hz hk
    obtain ⟨t2, a1, b1⟩ := kk T'.heap (locs ++ L) hB ⟨Nat.le_trans hS.1 hz, fun q h1 h2 => by rw [hk q (Nat.lt_of_lt_of_le h1 hS.1) h2]; exact hS.2.1 q h1 h2, fun q hq => by
      rcases List.mem_append.mp hq with h | h
      · exact hS.2.2 q h
      · exact hL q h⟩ T' rfl X'
    exact ⟨t2, st t2 a1, b1⟩
  · exact (hb.1 rfl).elim
/-- it throws, and so does this method -/
theorem outT {st0 : List Value} {Qa : State → Outcome → State → Prop} (hr : vx_Run p l e (rmT f lo t') s m args below meth c H locs 0 0 (tcc t) (tcs t) (F0 m pc ls st0) rest Qa (XP D cy z o d t σ' τ') (fz z)) (h0 : ∀ st v u, Qa st (.returned v) u → t = 0) (hn : t ≠ 0) (ht : t' = t) (hno : Nox c) (hlocks : meth.locks = false) (hS : va_S (fz z) s.heap H locs) (hσ : σ' = σ1) (hτ : τ' = τ1) :
    W p l e (rmT f lo t') s m args below meth c H locs 0 0 (vx_MQ below Qc (XP D cy z o d t' σ1 τ1) args s (tcc t') (tcs t') (fz z)) (F0 m pc ls st0) := by
  subst ht
  subst hσ
  subst hτ
  intro T hT X
  rcases hr T hT X with ⟨v, st₀, u, T', L, _, X', hL, e1, e2, hq, st⟩ | ⟨q, st₀, u, T', L, E, ce, g0, X', hL, e1, e2, ⟨w, hp, ⟨hb1, hb2, hb3⟩, hz, hk⟩, hce, hcv, hcl, st⟩
  · exact absurd (h0 _ _ _ hq) hn
  · subst hb2
    rw [g0] at hz hk
    rw [← e1] at hb3 hz hk hce
    have hS1 : va_S (fz z) s.heap T'.heap (locs ++ L) := ⟨Nat.le_trans hS.1 hz, fun q h1 h2 => by rw [hk q (Nat.lt_of_lt_of_le h1 hS.1) h2]; exact hS.2.1 q h1 h2, fun q hq => by
      rcases List.mem_append.mp hq with h | h
      · exact hS.2.2 q h
      · exact hL q h⟩
    obtain ⟨t2, a1, b1⟩ := vx_out (Qc := Qc) (XC := XP D cy z o d t' σ' τ') (free := fz z) (mc := tcc t') (ms := tcs t') (rest := rest) (ls := ls) (pc := pc) (hno.out _) hlocks hce hcv hcl (fun u9 hu _ => ⟨(), trivial, ⟨hb1, rfl, by show WP D cy z σ' τ' o d u9.heap; rw [hu]; exact hb3⟩, hS1.F hu⟩) hS1.2.2 (by omega) (by omega) T' rfl X'
    exact ⟨t2, st.trans a1, b1⟩
theorem z_I {r : Int32} {a : Array Value} : ∀ st v u, PoTI D cy z o d t r σ' τ' a st (.returned v) u → t = 0 := fun _ _ _ h => h.1.choose_spec.choose_spec.2.1.1
theorem z_D {r : UInt64} {a : Array Value} : ∀ st v u, PoTD D cy z o d t r σ' τ' a st (.returned v) u → t = 0 := fun _ _ _ h => h.1.choose_spec.choose_spec.2.1.1
theorem z_V {a : Array Value} : ∀ st v u, PoTV D cy z o d t σ' τ' a st (.returned v) u → t = 0 := fun _ _ _ h => h.1.choose_spec.2.1
theorem z_R {r : Nat} {a : Array Value} : ∀ st v u, PoTR D cy z o d t r σ' τ' a st (.returned v) u → t = 0 := fun _ _ _ h => h.1.choose_spec.choose_spec.2.1
end RowsT
theorem vxa_x1 : ∀ w ∈ (vx_atS RX5 192 "java/lang/IndexOutOfBoundsException" exS).filter goodWord, w ∈ lw_tbl := by decide +kernel
theorem vxa_x2 : ∀ w ∈ (vx_atS RX5 48 "java/lang/IllegalArgumentException" exS).filter goodWord, w ∈ lw_tbl := by decide +kernel
theorem vxa_x3 : ∀ w ∈ (vx_atS RX5 103 "java/lang/IllegalStateException" exS).filter goodWord, w ∈ lw_tbl := by decide +kernel
theorem vxb_x1 : ∀ w ∈ (vx_atS RX5 192 "java/lang/IndexOutOfBoundsException" exS).filter (fun w => !goodWord w), w ∈ nestW := by decide +kernel
theorem vxb_x2 : ∀ w ∈ (vx_atS RX5 48 "java/lang/IllegalArgumentException" exS).filter (fun w => !goodWord w), w ∈ nestW := by decide +kernel
theorem vxb_x3 : ∀ w ∈ (vx_atS RX5 103 "java/lang/IllegalStateException" exS).filter (fun w => !goodWord w), w ∈ nestW := by decide +kernel
theorem vxc_x1 : ∀ w ∈ Cond.classLink RX5 188 "java/lang/IndexOutOfBoundsException" :: Cond.initialized "java/lang/IndexOutOfBoundsException" :: vx_atS RX5 192 "java/lang/IndexOutOfBoundsException" exS, vx_ot w = true := by decide +kernel
theorem vxc_x2 : ∀ w ∈ Cond.classLink RX5 44 "java/lang/IllegalArgumentException" :: Cond.initialized "java/lang/IllegalArgumentException" :: vx_atS RX5 48 "java/lang/IllegalArgumentException" exS, vx_ot w = true := by decide +kernel
theorem vxc_x3 : ∀ w ∈ Cond.classLink RX5 99 "java/lang/IllegalStateException" :: Cond.initialized "java/lang/IllegalStateException" :: vx_atS RX5 103 "java/lang/IllegalStateException" exS, vx_ot w = true := by decide +kernel
theorem vxw {L : List Cond} (h : ∀ w ∈ L.filter goodWord, w ∈ lw_tbl) : ∀ w ∈ L.filter goodWord, w ∈ WA := fun w hw => List.mem_filter.mpr ⟨h w hw, (List.mem_filter.mp hw).2⟩
theorem vxi_1 : Cond.classLink RX5 188 (exN 1) ∈ WA ∧ Cond.initialized (exN 1) ∈ WA ∧ Bundle.fit (exN 1) = true := ⟨(mA2 (i := 29) rfl rfl), (mA1 (i := 11) rfl rfl), by decide⟩
theorem vxi_2 : Cond.classLink RX5 44 (exN 2) ∈ WA ∧ Cond.initialized (exN 2) ∈ WA ∧ Bundle.fit (exN 2) = true := ⟨(mA2 (i := 100) rfl rfl), (mA1 (i := 12) rfl rfl), by decide⟩
theorem vxi_3 : Cond.classLink RX5 99 (exN 3) ∈ WA ∧ Cond.initialized (exN 3) ∈ WA ∧ Bundle.fit (exN 3) = true := ⟨(mA2 (i := 139) rfl rfl), (mA1 (i := 14) rfl rfl), by decide⟩
end
section
theorem cw_X5_snailNumbered : cwVt yX5_snailNumbered cX5_snailNumbered 2 (some (.object "QuadSnail$Snail")) 5 1 := ⟨(mA2 (i := 27) rfl rfl), (mA0 (i := 0) rfl rfl), (mA1 (i := 1) rfl rfl), (mA2 (i := 28) rfl rfl), by decide +kernel, ⟨_, rfl, rfl⟩, by decide⟩
def f_X5_snailNumbered (σ : Sg) (k : Nat) (x : Int32) : Nat :=
  if x < 0 then
    (k + 1) + 1
  else
    if x < 4 then
      f_X0_snail σ (k + 1) x
    else
      (k + 1) + 1
def x_X5_snailNumbered (σ : Sg) (k : Nat) (x : Int32) : Nat :=
  if x < 0 then
    1
  else
    if x < 4 then
      0
    else
      1
set_option maxHeartbeats 4000000 in
set_option maxRecDepth 100000 in
theorem k_X5_snailNumbered (l : Launch) (hfl : l.stackTraces = false) (D : va_G) (cy : Nat → ClassId) (z : Nat) (o : Int64) (d : UInt64) (σ τ : Sg) {k : Nat} (hk : kd k = 5) (x : Int32) : KT l yX5_snailNumbered cX5_snailNumbered 2 (some (.object "QuadSnail$Snail")) 6 82 D cy z [.ref (z + k), .int x] o d σ τ (x_X5_snailNumbered σ k x) (PoTR D cy z o d (x_X5_snailNumbered σ k x) (f_X5_snailNumbered σ k x) σ τ) σ τ := by
  refine metT_of RX5 (by decide) rfl (Nat.le_of_ble_eq_true rfl) ?_
  intro p e s m args below meth c C hno hP hS ls hl
  obtain ⟨hx, hb, hr, hml, hown, hW, hlocks, hAm⟩ := id C
  have hl : lv_has ls 2 [(0, .ref (z + k)), (1, .int x)] := hl
  refine lv_iload_n hx hb dX5_snailNumbered_0 rfl (lv_at hl 1 rfl) ?_
  refine lv_if_lt (tgt := 9) hx hb dX5_snailNumbered_1 (by decide) (fun c_1 => ?_) (fun c_1 => ?_)
  · exact thr_X5 C hno hfl hP hS (ik := 188) (is := 212) (ic := 192) (T := 1) (text := "no such snail") (by unfold x_X5_snailNumbered; rw [if_pos c_1]) (by decide) (by decide) vxi_1.1 vxi_1.2.1 vxi_1.2.2 (vxw vxa_x1) vxb_x1 vxc_x1 hl.1 dX5_snailNumbered_9 dX5_snailNumbered_12 dX5_snailNumbered_13 dX5_snailNumbered_15 dX5_snailNumbered_18 (by decide) (by decide) rfl rfl
  · refine lv_iload_n hx hb dX5_snailNumbered_4 rfl (lv_at hl 1 rfl) ?_
    refine lv_iconst (v := 4) hx hb dX5_snailNumbered_5 (by decide) ?_
    refine lv_icmp_lt (tgt := 19) hx hb dX5_snailNumbered_6 (by decide) (fun c_6 => ?_) (fun c_6 => ?_)
    · refine lv_aload_n hx hb dX5_snailNumbered_19 rfl (lv_at hl 0 rfl) ?_
      refine gf_X5_10 C hP hk dX5_snailNumbered_20 ?_
      refine lv_iload_n hx hb dX5_snailNumbered_23 rfl (lv_at hl 1 rfl) ?_
      refine thn_R (run_V (As := [.int x]) (rest := []) C (k_X0_snail l D cy z o d σ τ (kd5_1 hk) x) hP hS cw_X0_snail (mA1 (i := 239) rfl rfl) (kd5_1 hk) ⟨rfl, rfl⟩ ⟨Nat.le_of_ble_eq_true rfl, Nat.le_of_ble_eq_true rfl⟩ rfl (Nat.le_of_ble_eq_true rfl) hl.1 ⟨Nat.zero_le _, Nat.zero_le _⟩ dX5_snailNumbered_24) hS (fun H locs hP hS => ?_)
      exact retT_R C hP hS rfl (by unfold x_X5_snailNumbered; rw [if_neg c_1, if_pos c_6]) (by unfold f_X5_snailNumbered; rw [if_neg c_1, if_pos c_6]) rfl rfl dX5_snailNumbered_27
    · exact thr_X5 C hno hfl hP hS (ik := 188) (is := 212) (ic := 192) (T := 1) (text := "no such snail") (by unfold x_X5_snailNumbered; rw [if_neg c_1, if_neg c_6]) (by decide) (by decide) vxi_1.1 vxi_1.2.1 vxi_1.2.2 (vxw vxa_x1) vxb_x1 vxc_x1 hl.1 dX5_snailNumbered_9 dX5_snailNumbered_12 dX5_snailNumbered_13 dX5_snailNumbered_15 dX5_snailNumbered_18 (by decide) (by decide) rfl rfl
theorem kr_X5_snailNumbered (σ : Sg) {k : Nat} (hk : kd k = 5) (x : Int32) : kd (f_X5_snailNumbered σ k x) = 4 := by
  unfold f_X5_snailNumbered
  repeat' split
  all_goals first | exact kr_X0_snail σ (kd5_1 hk) _ | exact kd0_1 (kd5_1 hk)

theorem cw_X5_demandState : cwSt yX5_demandState cX5_demandState 1 none 1 := ⟨(mA2 (i := 98) rfl rfl), (mA1 (i := 1) rfl rfl), (mA2 (i := 99) rfl rfl), by decide +kernel⟩
def x_X5_demandState  (x : Int32) : Nat :=
  if x < 0 then
    2
  else
    if x < 4 then
      0
    else
      2
set_option maxHeartbeats 4000000 in
set_option maxRecDepth 100000 in
theorem k_X5_demandState (l : Launch) (hfl : l.stackTraces = false) (D : va_G) (cy : Nat → ClassId) (z : Nat) (o : Int64) (d : UInt64) (σ τ : Sg) (x : Int32) : KT l yX5_demandState cX5_demandState 1 none 6 82 D cy z [.int x] o d σ τ (x_X5_demandState x) (PoTV D cy z o d (x_X5_demandState x) σ τ) σ τ := by
  refine metT_of RX5 (by decide) rfl (Nat.le_of_ble_eq_true rfl) ?_
  intro p e s m args below meth c C hno hP hS ls hl
  obtain ⟨hx, hb, hr, hml, hown, hW, hlocks, hAm⟩ := id C
  have hl : lv_has ls 1 [(0, .int x)] := hl
  refine lv_iload_n hx hb dX5_demandState_0 rfl (lv_at hl 0 rfl) ?_
  refine lv_if_lt (tgt := 9) hx hb dX5_demandState_1 (by decide) (fun c_1 => ?_) (fun c_1 => ?_)
  · exact thr_X5 C hno hfl hP hS (ik := 44) (is := 214) (ic := 48) (T := 2) (text := "state out of range") (by unfold x_X5_demandState; rw [if_pos c_1]) (by decide) (by decide) vxi_2.1 vxi_2.2.1 vxi_2.2.2 (vxw vxa_x2) vxb_x2 vxc_x2 hl.1 dX5_demandState_9 dX5_demandState_12 dX5_demandState_13 dX5_demandState_15 dX5_demandState_18 (by decide) (by decide) rfl rfl
  · refine lv_iload_n hx hb dX5_demandState_4 rfl (lv_at hl 0 rfl) ?_
    refine lv_iconst (v := 4) hx hb dX5_demandState_5 (by decide) ?_
    refine lv_icmp_lt (tgt := 19) hx hb dX5_demandState_6 (by decide) (fun c_6 => ?_) (fun c_6 => ?_)
    · exact retT_V C hP hS (by unfold x_X5_demandState; rw [if_neg c_1, if_pos c_6]) rfl rfl dX5_demandState_19
    · exact thr_X5 C hno hfl hP hS (ik := 44) (is := 214) (ic := 48) (T := 2) (text := "state out of range") (by unfold x_X5_demandState; rw [if_neg c_1, if_neg c_6]) (by decide) (by decide) vxi_2.1 vxi_2.2.1 vxi_2.2.2 (vxw vxa_x2) vxb_x2 vxc_x2 hl.1 dX5_demandState_9 dX5_demandState_12 dX5_demandState_13 dX5_demandState_15 dX5_demandState_18 (by decide) (by decide) rfl rfl

theorem cw_X5_demandRoom : cwSt yX5_demandRoom cX5_demandRoom 3 none 3 := ⟨(mA2 (i := 132) rfl rfl), (mA1 (i := 1) rfl rfl), (mA2 (i := 133) rfl rfl), by decide +kernel⟩
def x_X5_demandRoom (σ : Sg) (j : Nat) (x : Int32) (y : Int32) : Nat :=
  if (f_X4_hasRoom σ j x y) = 0 then
    3
  else
    0
set_option maxHeartbeats 4000000 in
set_option maxRecDepth 100000 in
theorem k_X5_demandRoom (l : Launch) (hfl : l.stackTraces = false) (D : va_G) (cy : Nat → ClassId) (z : Nat) (o : Int64) (d : UInt64) (σ τ : Sg) (j : Nat) (hk_j : kd j = 4) (x : Int32) (y : Int32) : KT l yX5_demandRoom cX5_demandRoom 3 none 6 82 D cy z [.ref (z + j), .int x, .int y] o d σ τ (x_X5_demandRoom σ j x y) (PoTV D cy z o d (x_X5_demandRoom σ j x y) σ τ) σ τ := by
  refine metT_of RX5 (by decide) rfl (Nat.le_of_ble_eq_true rfl) ?_
  intro p e s m args below meth c C hno hP hS ls hl
  obtain ⟨hx, hb, hr, hml, hown, hW, hlocks, hAm⟩ := id C
  have hl : lv_has ls 3 [(0, .ref (z + j)), (1, .int x), (2, .int y)] := hl
  refine lv_aload_n hx hb dX5_demandRoom_0 rfl (lv_at hl 0 rfl) ?_
  refine lv_iload_n hx hb dX5_demandRoom_1 rfl (lv_at hl 1 rfl) ?_
  refine lv_iload_n hx hb dX5_demandRoom_2 rfl (lv_at hl 2 rfl) ?_
  refine thn_I (run_V (As := [.int x, .int y]) (rest := []) C (k_X4_hasRoom l D cy z o d σ τ hk_j x y) hP hS cw_X4_hasRoom (mA2 (i := 134) rfl rfl) hk_j ⟨rfl, rfl⟩ ⟨Nat.le_of_ble_eq_true rfl, Nat.le_of_ble_eq_true rfl⟩ rfl (Nat.le_of_ble_eq_true rfl) hl.1 ⟨Nat.zero_le _, Nat.zero_le _⟩ dX5_demandRoom_3) hS (fun H locs hP hS => ?_)
  refine lv_if_ne (tgt := 19) hx hb dX5_demandRoom_6 (by decide) (fun c_6 => ?_) (fun c_6 => ?_)
  · exact retT_V C hP hS (by unfold x_X5_demandRoom; rw [if_neg c_6]) rfl rfl dX5_demandRoom_19
  · exact thr_X5 C hno hfl hP hS (ik := 99) (is := 220) (ic := 103) (T := 3) (text := "ticks or distance too great") (by unfold x_X5_demandRoom; rw [if_pos c_6]) (by decide) (by decide) vxi_3.1 vxi_3.2.1 vxi_3.2.2 (vxw vxa_x3) vxb_x3 vxc_x3 hl.1 dX5_demandRoom_9 dX5_demandRoom_12 dX5_demandRoom_13 dX5_demandRoom_15 dX5_demandRoom_18 (by decide) (by decide) rfl rfl

theorem cw_X5_demandValidText : cwVt yX5_demandValidText cX5_demandValidText 1 none 5 0 := ⟨(mA3 (i := 51) rfl rfl), (mA0 (i := 8) rfl rfl), (mA1 (i := 1) rfl rfl), (mA3 (i := 52) rfl rfl), by decide +kernel, ⟨_, rfl, rfl⟩, by decide⟩
def x_X5_demandValidText (σ : Sg) (k : Nat) : Nat :=
  if (f_X2_firstError σ (k + 93)) = (-1) then
    0
  else
    3
set_option maxHeartbeats 4000000 in
set_option maxRecDepth 100000 in
theorem k_X5_demandValidText (l : Launch) (hfl : l.stackTraces = false) (D : va_G) (cy : Nat → ClassId) (z : Nat) (o : Int64) (d : UInt64) (σ τ : Sg) {k : Nat} (hk : kd k = 5) (hT : TXA σ) : KT l yX5_demandValidText cX5_demandValidText 1 none 6 82 D cy z [.ref (z + k)] o d σ τ (x_X5_demandValidText σ k) (PoTV D cy z o d (x_X5_demandValidText σ k) σ τ) σ τ := by
  refine metT_of RX5 (by decide) rfl (Nat.le_of_ble_eq_true rfl) ?_
  intro p e s m args below meth c C hno hP hS ls hl
  obtain ⟨hx, hb, hr, hml, hown, hW, hlocks, hAm⟩ := id C
  have hl : lv_has ls 1 [(0, .ref (z + k))] := hl
  refine lv_aload_n hx hb dX5_demandValidText_0 rfl (lv_at hl 0 rfl) ?_
  refine gf_X5_32 C hP hk dX5_demandValidText_1 ?_
  refine thn_I (run_V (As := []) (rest := []) C (k_X2_firstError l D cy z o d σ τ (kd5_93 hk) hT) hP hS cw_X2_firstError (mA1 (i := 195) rfl rfl) (kd5_93 hk) ⟨rfl, rfl⟩ ⟨Nat.le_of_ble_eq_true rfl, Nat.le_of_ble_eq_true rfl⟩ rfl (Nat.le_of_ble_eq_true rfl) hl.1 ⟨Nat.zero_le _, Nat.zero_le _⟩ dX5_demandValidText_4) hS (fun H locs hP hS => ?_)
  refine lv_iconst (v := (-1)) hx hb dX5_demandValidText_7 (by decide) ?_
  refine lv_icmp_eq (tgt := 21) hx hb dX5_demandValidText_8 (by decide) (fun c_8 => ?_) (fun c_8 => ?_)
  · exact retT_V C hP hS (by unfold x_X5_demandValidText; rw [if_pos c_8]) rfl rfl dX5_demandValidText_21
  · exact thr_X5 C hno hfl hP hS (ik := 99) (is := 222) (ic := 103) (T := 3) (text := "the text is not valid") (by unfold x_X5_demandValidText; rw [if_neg c_8]) (by decide) (by decide) vxi_3.1 vxi_3.2.1 vxi_3.2.2 (vxw vxa_x3) vxb_x3 vxc_x3 hl.1 dX5_demandValidText_11 dX5_demandValidText_14 dX5_demandValidText_15 dX5_demandValidText_17 dX5_demandValidText_20 (by decide) (by decide) rfl rfl
end

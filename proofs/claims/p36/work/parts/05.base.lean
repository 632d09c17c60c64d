/-! worlds: the objects of the class, the reference and the law's two arrays, at the addresses z, z+1 .. -/
abbrev Sg : Type := Nat → Nat → Int32
def up (σ : Sg) (k j : Nat) (v : Int32) : Sg := fun a b => if a = k ∧ b = j then v else σ a b
theorem up_ne {σ : Sg} {k j a : Nat} {v : Int32} (h : a ≠ k) : up σ k j v a = σ a := funext fun b => by simp [up, h]
/-- the words of the tables that hold anywhere: every contract's list behind its own code -/
def WA : List Cond := lw_tbl.filter goodWord
theorem wa_good : ∀ w ∈ WA, goodWord w = true := fun _ h => (List.mem_filter.mp h).2
theorem wa_tbl : ∀ w ∈ WA, w ∈ lw_tbl := fun _ h => (List.mem_filter.mp h).1
theorem mA0 {i : Nat} {w : Cond} (h : (k2_sels lw_privs)[i]? = some w) (hg : goodWord w = true) : w ∈ WA := List.mem_filter.mpr ⟨List.mem_append_left _ (List.mem_of_getElem? h), hg⟩
theorem mA1 {i : Nat} {w : Cond} (h : tables_1_1[i]? = some w) (hg : goodWord w = true) : w ∈ WA := List.mem_filter.mpr ⟨List.mem_append_right _ (List.mem_append_left _ (List.mem_of_getElem? h)), hg⟩
theorem mA2 {i : Nat} {w : Cond} (h : tables_1_2[i]? = some w) (hg : goodWord w = true) : w ∈ WA := List.mem_filter.mpr ⟨List.mem_append_right _ (List.mem_append_right _ (List.mem_append_left _ (List.mem_of_getElem? h))), hg⟩
theorem mA3 {i : Nat} {w : Cond} (h : tables_1_3[i]? = some w) (hg : goodWord w = true) : w ∈ WA := List.mem_filter.mpr ⟨List.mem_append_right _ (List.mem_append_right _ (List.mem_append_right _ (List.mem_of_getElem? h))), hg⟩
theorem wa_app {ws : List Cond} {w0 : Cond} (hs : ∀ w ∈ ws, w ∈ WA) (h0 : w0 ∈ WA) : GoodIn WA (ws ++ (w0 :: WA)) := by
  intro w hw
  have hm : w ∈ WA := by
    rcases List.mem_append.mp hw with h | h
    · exact hs w h
    · rcases List.mem_cons.mp h with h | h
      · rw [h]; exact h0
      · exact h
  exact ⟨hm, good_of_word (wa_good w hm)⟩
theorem wa_cons {w0 : Cond} (h0 : w0 ∈ WA) : GoodIn WA (w0 :: WA) := wa_app (ws := []) (fun _ h => nomatch h) h0
def mwl (z n : Nat) (f : Nat → va_E) : va_W := (List.range n).map fun k => (z + k, f k)
theorem mwl_len {z n : Nat} {f : Nat → va_E} : (mwl z n f).length = n := by simp [mwl]
theorem mwl_at {z n : Nat} {f : Nat → va_E} {k : Nat} (h : k < n) : (mwl z n f)[k]? = some (z + k, f k) := by simp [mwl, h]
theorem mwl_of {z n : Nat} {f : Nat → va_E} {k : Nat} {q : Nat × va_E} (h : (mwl z n f)[k]? = some q) : k < n ∧ q = (z + k, f k) := by
  have hl := (List.getElem?_eq_some_iff.mp h).1
  rw [mwl_len] at hl
  rw [mwl_at hl] at h
  exact ⟨hl, (Option.some.inj h).symm⟩
theorem mwl_D {z n : Nat} {f : Nat → va_E} : va_D (fun q => z ≤ q) (mwl z n f) := by
  refine ⟨fun i j p q hi hj hpq => ?_, fun k q hk => ?_⟩
  · obtain ⟨-, rfl⟩ := mwl_of hi
    obtain ⟨-, rfl⟩ := mwl_of hj
    dsimp only at hpq
    omega
  · obtain ⟨-, rfl⟩ := mwl_of hk
    exact Nat.le_add_right _ _
theorem mwl_congr {z n : Nat} {f g : Nat → va_E} (h : ∀ k, k < n → f k = g k) : mwl z n f = mwl z n g := by
  apply List.ext_getElem?
  intro i
  by_cases hi : i < n
  · rw [mwl_at hi, mwl_at hi, h i hi]
  · rw [List.getElem?_eq_none (by rw [mwl_len]; omega), List.getElem?_eq_none (by rw [mwl_len]; omega)]
theorem mwl_set {z n : Nat} {f : Nat → va_E} {k : Nat} {e : va_E} : (mwl z n f).set k (z + k, e) = mwl z n (fun j => if j = k then e else f j) := by
  apply List.ext_getElem?
  intro i
  by_cases hi : i < n
  · rw [mwl_at hi]
    by_cases hk : k = i
    · subst hk
      rw [List.getElem?_set_self (by rw [mwl_len]; exact hi)]
      simp
    · rw [List.getElem?_set_ne hk, mwl_at hi, if_neg (Ne.symm hk)]
  · rw [List.getElem?_eq_none (by rw [List.length_set, mwl_len]; omega), List.getElem?_eq_none (by rw [mwl_len]; omega)]
/-- what stands at z + k: the number of its class, or 7 and on for arrays -/
abbrev chr (x : Int32) : Int32 := (x.toUInt32 % 65536).toInt32
def kd (k : Nat) : Nat :=
  if k = 0 then 5 else if k = 40 then 3 else if k = 93 then 2 else if k = 94 then 8 else if 95 ≤ k then 99
  else
    let r := (if k < 40 then k - 1 else k - 41) % 13
    if r = 0 then 0 else if (r - 1) % 3 = 0 then 4 else if (r - 1) % 3 = 1 then 1 else 7
theorem kd_lt {k : Nat} (h : kd k ≠ 99) : k < 95 := by
  apply Nat.lt_of_not_le
  intro hk
  apply h
  unfold kd
  rw [if_neg (by omega), if_neg (by omega), if_neg (by omega), if_neg (by omega), if_pos (by omega)]
def ent (z : Nat) (cy : Nat → ClassId) (σ τ : Sg) (o : Int64) (d : UInt64) (k : Nat) : va_E := match kd k with
  | 0 => .inr (0, [.ref (z + (k + 1)), .ref (z + (k + 4)), .ref (z + (k + 7)), .ref (z + (k + 10)), .int (σ k 4), .int (σ k 5)])
  | 1 => .inr (1, [.ref (z + (k + 1)), .int (σ k 1), .int (σ k 2)])
  | 2 => .inr (2, [.ref (z + (k + 1)), .int (σ k 1)])
  | 3 => .inr (3, [.ref (z + (k + 1)), .ref (z + (k + 14)), .ref (z + (k + 27)), .ref (z + (k + 40)), .int (σ k 4), .int (σ k 5)])
  | 4 => .inr (4, [.ref (z + (k + 1)), .int (σ k 1), .int (σ k 2), .int (σ k 3), .int (σ k 4), .int (σ k 5), .int (σ k 6), .int (σ k 7), .int (σ k 8), .int (σ k 9), .int (σ k 10), .int (σ k 11)])
  | 5 => .inr (5, [.ref (z + (k + 1)), .ref (z + (k + 14)), .ref (z + (k + 27)), .ref (z + (k + 40)), .ref (z + (k + 93)), .int (σ k 5)])
  | 7 => .inl (cy 0, 48, .inl (σ k))
  | 8 => .inl (cy 1, 80, .inl (fun i => chr (σ k i)))
  | _ => .inl (cy 0, 0, .inl (σ k))
theorem ent_0 {z : Nat} {cy : Nat → ClassId} {σ τ : Sg} {o : Int64} {d : UInt64} {k : Nat} (h : kd k = 0) : ent z cy σ τ o d k = .inr (0, [.ref (z + (k + 1)), .ref (z + (k + 4)), .ref (z + (k + 7)), .ref (z + (k + 10)), .int (σ k 4), .int (σ k 5)]) := by simp only [ent, h]
theorem ent_1 {z : Nat} {cy : Nat → ClassId} {σ τ : Sg} {o : Int64} {d : UInt64} {k : Nat} (h : kd k = 1) : ent z cy σ τ o d k = .inr (1, [.ref (z + (k + 1)), .int (σ k 1), .int (σ k 2)]) := by simp only [ent, h]
theorem ent_2 {z : Nat} {cy : Nat → ClassId} {σ τ : Sg} {o : Int64} {d : UInt64} {k : Nat} (h : kd k = 2) : ent z cy σ τ o d k = .inr (2, [.ref (z + (k + 1)), .int (σ k 1)]) := by simp only [ent, h]
theorem ent_3 {z : Nat} {cy : Nat → ClassId} {σ τ : Sg} {o : Int64} {d : UInt64} {k : Nat} (h : kd k = 3) : ent z cy σ τ o d k = .inr (3, [.ref (z + (k + 1)), .ref (z + (k + 14)), .ref (z + (k + 27)), .ref (z + (k + 40)), .int (σ k 4), .int (σ k 5)]) := by simp only [ent, h]
theorem ent_4 {z : Nat} {cy : Nat → ClassId} {σ τ : Sg} {o : Int64} {d : UInt64} {k : Nat} (h : kd k = 4) : ent z cy σ τ o d k = .inr (4, [.ref (z + (k + 1)), .int (σ k 1), .int (σ k 2), .int (σ k 3), .int (σ k 4), .int (σ k 5), .int (σ k 6), .int (σ k 7), .int (σ k 8), .int (σ k 9), .int (σ k 10), .int (σ k 11)]) := by simp only [ent, h]
theorem ent_5 {z : Nat} {cy : Nat → ClassId} {σ τ : Sg} {o : Int64} {d : UInt64} {k : Nat} (h : kd k = 5) : ent z cy σ τ o d k = .inr (5, [.ref (z + (k + 1)), .ref (z + (k + 14)), .ref (z + (k + 27)), .ref (z + (k + 40)), .ref (z + (k + 93)), .int (σ k 5)]) := by simp only [ent, h]
theorem ent_7 {z : Nat} {cy : Nat → ClassId} {σ τ : Sg} {o : Int64} {d : UInt64} {k : Nat} (h : kd k = 7) : ent z cy σ τ o d k = .inl (cy 0, 48, .inl (σ k)) := by simp only [ent, h]
theorem ent_8 {z : Nat} {cy : Nat → ClassId} {σ τ : Sg} {o : Int64} {d : UInt64} {k : Nat} (h : kd k = 8) : ent z cy σ τ o d k = .inl (cy 1, 80, .inl (fun i => chr (σ k i))) := by simp only [ent, h]
theorem ent_up_ne {z : Nat} {cy : Nat → ClassId} {σ τ : Sg} {o : Int64} {d : UInt64} {k f j : Nat} {v : Int32} (h : j ≠ k) : ent z cy (up σ k f v) τ o d j = ent z cy σ τ o d j := by
  unfold ent
  rw [up_ne h]
def tyc (cy : Nat → ClassId) : List (ClassId × FieldType) := [(cy 0, .int), (cy 1, .char)]
/-- the nest mates' words -/
def nestW : List Cond := [.fieldLinkNest RX5 154 RX4 "state" "I" "QuadSnail", .fieldLinkNest RX5 157 RX4 "countA" "I" "QuadSnail", .fieldLinkNest RX5 160 RX4 "countB" "I" "QuadSnail", .fieldLinkNest RX5 163 RX4 "errorSteps" "I" "QuadSnail", .fieldLinkNest RX5 166 RX4 "offAtMarks" "I" "QuadSnail", .fieldLinkNest RX5 175 RX4 "direction" "I" "QuadSnail", .fieldLinkNest RX5 181 RX4 "log" "LQuadSnail$Log;" "QuadSnail", .fieldLinkNest RX5 185 RX1 "length" "I" "QuadSnail", .fieldLinkNest RX5 200 RX4 "errors" "I" "QuadSnail", .fieldLinkNest RX5 203 RX4 "slips" "I" "QuadSnail", .fieldLinkNest RX5 206 RX4 "distance" "I" "QuadSnail", .fieldLinkNest RX5 209 RX4 "ticks" "I" "QuadSnail", .fieldLinkNest RX5 51 RX0 "rule" "I" "QuadSnail", .fieldLinkNest RX5 84 RX4 "position" "I" "QuadSnail", .fieldLinkNest RX5 87 RX0 "counts" "I" "QuadSnail", .fieldLinkNest RX4 49 RX1 "length" "I" "QuadSnail", .methodLinkNest RX5 24 yX3_init "QuadSnail", .methodLinkNest RX5 31 yX2_init "QuadSnail", .methodLinkNest RX5 9 yX0_init "QuadSnail", .methodLinkNest RX0 11 yX4_init "QuadSnail", .methodLinkNest RX3 11 yX0_init "QuadSnail", .methodLinkNest RX4 11 yX1_init "QuadSnail", .castable "java/lang/IndexOutOfBoundsException" "java/lang/IndexOutOfBoundsException", .castable "java/lang/IllegalArgumentException" "java/lang/IllegalArgumentException", .castable "java/lang/IllegalStateException" "java/lang/IllegalStateException", .declares ⟨"java/lang/RuntimeException", "<init>", "(Ljava/lang/String;)V"⟩, .declares ⟨"java/lang/Exception", "<init>", "(Ljava/lang/String;)V"⟩, .declares ⟨"java/lang/Throwable", "<init>", "(Ljava/lang/String;)V"⟩]
def isNest : Cond → Bool
  | .fieldLinkNest _ _ _ _ _ _ => true
  | .methodLinkNest _ _ _ _ => true
  | .castable _ _ => true
  | .declares _ => true
  | _ => false
theorem nestW_ok : nestW.all isNest = true := by decide +kernel
theorem nw_warm {w : Cond} {s U : State} (hn : isNest w = true) (hW : s.WarmedH U.vm) (h : va_Nw w s) : va_Nw w U := by
  cases w <;> first | (simp [isNest] at hn; done) | exact va_Nw.warmF hW h | exact va_Nw.warmM hW h | exact va_Nw.warmC hW h | exact va_Nw.warmD hW h
theorem nw_onT {w : Cond} (hn : isNest w = true) : w.onTables = true := by
  cases w <;> first | (simp [isNest] at hn; done) | rfl
def strW : List (Nat × String) := [(101, "the way back is not in the log, or too long"), (107, "no such rule"), (109, "no such counts"), (190, "no such log entry"), (212, "no such snail"), (214, "state out of range"), (220, "ticks or distance too great"), (46, "ticks out of range"), (79, "steps out of range"), (93, "feelings out of range")]
/-- what stays true of every state of a run: classes, tables, the two statics of Throwable -/
def Amb (D : va_G) (cy : Nat → ClassId) (z : Nat) (U : State) (H : Heap) : Prop :=
  va_K D vwCl (tyc cy) U ∧ (∀ w ∈ nestW, va_Nw w U) ∧ (∀ q ∈ strW, ∃ sa, vk_R RX5 q.1 q.2 sa U) ∧ vx_Zq Bundle.tN "UNASSIGNED_STACK" Bundle.steD (fun q => z ≤ q) U H ∧ vx_Zq Bundle.tN "SUPPRESSED_SENTINEL" Bundle.listD (fun q => z ≤ q) U H
theorem Amb.same {D : va_G} {cy : Nat → ClassId} {z : Nat} {u U : State} {H : Heap} (h : Amb D cy z u H) (hv : u.vm = U.vm) : Amb D cy z U H := by
  have ha : u.vm.Alike U.vm := by rw [hv]; exact Vm.Alike.refl U.vm
  obtain ⟨h1, h2, h3, h4, h5⟩ := h
  refine ⟨va_K.moved ha h1, fun w hw => va_Nw.same (nw_onT (List.all_eq_true.mp nestW_ok w hw)) hv (h2 w hw), fun q hq => ?_, h4.moved ha, h5.moved ha⟩
  obtain ⟨sa, h⟩ := h3 q hq
  exact ⟨sa, vk_R.same hv.symm h⟩
theorem Amb.warm {D : va_G} {cy : Nat → ClassId} {z : Nat} {s U : State} {H H1 : Heap} (h : Amb D cy z s H) (hW : s.WarmedH U.vm) (hq : ∀ a : Nat, a < H.size → ¬ (z ≤ a) → H1[a]? = H[a]?) : Amb D cy z U H1 := by
  have ha := hW.alike
  obtain ⟨h1, h2, h3, h4, h5⟩ := h
  refine ⟨va_K.moved ha h1, fun w hw => nw_warm (List.all_eq_true.mp nestW_ok w hw) hW (h2 w hw), fun q hq => ?_, (h4.moved ha).kept hq, (h5.moved ha).kept hq⟩
  obtain ⟨sa, h⟩ := h3 q hq
  exact ⟨sa, vk_R.warm hW h⟩
/-- the world -/
def WP (D : va_G) (cy : Nat → ClassId) (z : Nat) (σ τ : Sg) (o : Int64) (d : UInt64) (H : Heap) : Prop := va_P D vwCl (mwl z 95 (ent z cy σ τ o d)) H
theorem WP.put {D : va_G} {cy : Nat → ClassId} {z : Nat} {σ τ σ' τ' : Sg} {o o' : Int64} {d d' : UInt64} {H : Heap} {k : Nat} {e : va_E} (hP : va_P D vwCl ((mwl z 95 (ent z cy σ τ o d)).set k (z + k, e)) H)
    (he : e = ent z cy σ' τ' o' d' k) (hne : ∀ j, j ≠ k → ent z cy σ τ o d j = ent z cy σ' τ' o' d' j) : WP D cy z σ' τ' o' d' H := by
  rw [mwl_set] at hP
  unfold WP
  rw [← mwl_congr (f := fun j => if j = k then e else ent z cy σ τ o d j) (fun j _ => ?_)]
  · exact hP
  · by_cases hj : j = k
    · subst hj
      rw [if_pos rfl]
      exact he
    · rw [if_neg hj]
      exact hne j hj
theorem WP.put1 {D : va_G} {cy : Nat → ClassId} {z : Nat} {σ τ : Sg} {o : Int64} {d : UInt64} {H : Heap} {k j : Nat} {v : Int32} {e : va_E} (hP : va_P D vwCl ((mwl z 95 (ent z cy σ τ o d)).set k (z + k, e)) H)
    (he : e = ent z cy (up σ k j v) τ o d k) : WP D cy z (up σ k j v) τ o d H := WP.put hP he fun _ h => (ent_up_ne h).symm
/-- what a method's body has at hand -/
def Bd (p : Program) (s : State) (m : MethodId) (args : Array Value) (meth : Method) (c : Code) (cc : ByteArray) (nl : Nat) (rt : Option FieldType) (own : String) (D : va_G) (cy : Nat → ClassId) (z : Nat) : Prop :=
  p.tables.exec = Jvm.exec ∧ c.code = cc ∧ meth.sig.returnType = rt ∧ c.maxLocals = nl ∧ s.vm.findClass own = some m.cls ∧ (∀ w ∈ WA, w.before args s = true) ∧ meth.locks = false ∧ Amb D cy z s s.heap
def Pre (D : va_G) (cy : Nat → ClassId) (z : Nat) (As : List Value) (σ τ : Sg) (o : Int64) (d : UInt64) : Array Value → State → Prop := va_Pc As (fun U => WP D cy z σ τ o d U.heap ∧ Amb D cy z U U.heap)
theorem Pre.blind {D : va_G} {cy : Nat → ClassId} {z : Nat} {As : List Value} {σ τ : Sg} {o : Int64} {d : UInt64} : FrameBlind (Pre D cy z As σ τ o d) := by
  intro a U g mk h
  obtain ⟨h1, h2, h3⟩ := h
  exact ⟨h1, h2, h3.same (U := U.calling g mk a) rfl⟩
def PoI (D : va_G) (cy : Nat → ClassId) (z : Nat) (o : Int64) (d : UInt64) (r : Int32) (σ τ : Sg) : Array Value → State → Outcome → State → Prop := va_Qi (fun (x : Int32) (_ : Unit) => x = r) (fun _ U => WP D cy z σ τ o d U.heap) (fun q => z ≤ q)
def PoV (D : va_G) (cy : Nat → ClassId) (z : Nat) (o : Int64) (d : UInt64) (σ τ : Sg) : Array Value → State → Outcome → State → Prop := va_Qv (fun (_ : Unit) => True) (fun _ U => WP D cy z σ τ o d U.heap) (fun q => z ≤ q)
def PoR (D : va_G) (cy : Nat → ClassId) (z : Nat) (o : Int64) (d : UInt64) (r : Nat) (σ τ : Sg) : Array Value → State → Outcome → State → Prop := va_Qr (fun (_ : Unit) => True) (fun _ a U => a = z + r ∧ WP D cy z σ τ o d U.heap) (fun q => z ≤ q)
abbrev fz (z : Nat) : Addr → Prop := fun q => z ≤ q
/-- contracts: an answer that is an int, none, a cell of the world -/
def KI (l : Launch) (y : MethodName) (bc : ByteArray) (nl : Nat) (rt : Option FieldType) (rm : Room) (D : va_G) (cy : Nat → ClassId) (z : Nat) (As : List Value) (o : Int64) (d : UInt64) (σ τ : Sg) (r : Int32) (σ' τ' : Sg) : Prop :=
  Met l y (.code y bc nl rt :: WA) rm (Pre D cy z As σ τ o d) (PoI D cy z o d r σ' τ') 0 0 (fz z)
def KV (l : Launch) (y : MethodName) (bc : ByteArray) (nl : Nat) (rm : Room) (D : va_G) (cy : Nat → ClassId) (z : Nat) (As : List Value) (o : Int64) (d : UInt64) (σ τ : Sg) (σ' τ' : Sg) : Prop :=
  Met l y (.code y bc nl none :: WA) rm (Pre D cy z As σ τ o d) (PoV D cy z o d σ' τ') 0 0 (fz z)
def KR (l : Launch) (y : MethodName) (bc : ByteArray) (nl : Nat) (rt : Option FieldType) (rm : Room) (D : va_G) (cy : Nat → ClassId) (z : Nat) (As : List Value) (o : Int64) (d : UInt64) (σ τ : Sg) (r : Nat) (σ' τ' : Sg) : Prop :=
  Met l y (.code y bc nl rt :: WA) rm (Pre D cy z As σ τ o d) (PoR D cy z o d r σ' τ') 0 0 (fz z)
/-- a method that no entry of the machine's own runs instead -/
theorem met_body {l : Launch} {y : MethodName} {ws ws' : List Cond} {rm : Room} {Pc : Array Value → State → Prop} {Qc : Array Value → State → Outcome → State → Prop} {mc ms : Nat} {free : Addr → Prop} {cc : ByteArray} {maxL : Nat} {ret : Option FieldType}
    (hy : plainFor y = true) (hw : ws = Cond.code y cc maxL ret :: ws')
    (body : ∀ p e s m args below meth c s₁, BodyLoose p l y (headSpec ws rm) cc maxL ret e s m args below meth c s₁ → c.maxLocals = maxL → Pc args s → W p l e (headSpec ws rm).room s m args below meth c s.heap [] 0 0 (MQ below Qc args s mc ms free) (entryFrame m args maxL)) : Met l y ws rm Pc Qc mc ms free := by
  refine MetFree.of_bodySF (code := cc) (maxLocals := maxL) (ret := ret) hy ?_ ?_
  · intro args s m h hn
    obtain ⟨meth, c, h1, h2, h3, h4, h5, h6, -, -⟩ := Cond.code_spec hn (atoms_spec (ws := ws) h _ (by rw [hw]; exact List.mem_cons_self))
    exact ⟨meth, c, h1, h2, h3, h4, h5, h6⟩
  · intro p e s m args below meth c s₁ B hml hP _
    have hh0 : s₁.heap = s.heap := by rw [B.state]; rfl
    obtain ⟨t, a1, o, b1, b2, b3⟩ := body p e s m args below meth c s₁ B hml hP s₁ hh0 (Stand.of_body B)
    exact ⟨t, o, a1, b1, b2, ⟨b3.1, b3.2⟩⟩
/-- the frame of a proof: from the words to the walk -/
theorem met_of {l : Launch} {y : MethodName} {bc : ByteArray} {nl : Nat} {rt : Option FieldType} {rm : Room} {D : va_G} {cy : Nat → ClassId} {z : Nat} {As : List Value} {o : Int64} {d : UInt64} {σ τ : Sg} {Qc : Array Value → State → Outcome → State → Prop} (own : String) (hy : plainFor y = true) (ho : y.cls = own) (hn : (lg_sl As).length ≤ nl)
    (body : ∀ p e s m args below meth c, Bd p s m args meth c bc nl rt own D cy z → WP D cy z σ τ o d s.heap → va_S (fz z) s.heap s.heap [] → ∀ ls : Array Slot, lv_has ls nl (lv_args 0 As) → W p l e rm s m args below meth c s.heap [] 0 0 (MQ below Qc args s 0 0 (fz z)) (F0 m 0 ls [])) :
    Met l y (.code y bc nl rt :: WA) rm (Pre D cy z As σ τ o d) Qc 0 0 (fz z) := by
  refine met_body (cc := bc) (maxL := nl) (ret := rt) hy rfl ?_
  intro p e s m args below meth c s₁ B hml hv
  obtain ⟨rfl, hP, hAm⟩ := hv
  have hts := atoms_spec (ws := .code y bc nl rt :: WA) B.pre
  have hown : s.vm.findClass own = some m.cls := by rw [← ho]; exact findClass_of_methodNamed B.named
  rw [lg_entry_eq]
  exact body p e s m As.toArray below meth c ⟨B.exec, B.bytes, B.returns, hml, hown, fun w h => hts w (List.mem_cons_of_mem _ h), B.notSynchronized, hAm⟩ hP va_S.rf _ (lv_entry As hn)

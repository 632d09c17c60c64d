/-! constructors: a world that grows, cell by cell -/
def sg0 : Sg := fun a b => if kd a = 0 ∧ b = 5 then 24 else 0
def ta0 : Sg := fun a b => if a = 1 ∧ b = 229 then 24 else 0
def IN (z : Nat) (cy : Nat → ClassId) : Nat → va_E := ent z cy sg0 ta0 0 0
/-- the cells below a as they were, e at a, behind it as they are at birth -/
def cut (I : Nat → va_E) (a : Nat) (e : va_E) (F : Nat → va_E) : Nat → va_E := fun k => if k < a then F k else if k = a then e else I k
theorem cut_lt {I F : Nat → va_E} {a k : Nat} {e : va_E} (h : k < a) : cut I a e F k = F k := if_pos h
theorem cut_eq {I F : Nat → va_E} {a : Nat} {e : va_E} : cut I a e F a = e := by unfold cut; rw [if_neg (Nat.lt_irrefl a), if_pos rfl]
theorem cut_gt {I F : Nat → va_E} {a k : Nat} {e : va_E} (h : a < k) : cut I a e F k = I k := by unfold cut; rw [if_neg (by omega), if_neg (by omega)]
def GW (D : va_G) (z n : Nat) (f : Nat → va_E) (H : Heap) : Prop := H.size = z + n ∧ va_P D vwCl (mwl z n f) H
theorem GW.cg {D : va_G} {z n : Nat} {f g : Nat → va_E} {H : Heap} (h : GW D z n f H) (hf : ∀ k, k < n → f k = g k) : GW D z n g H := ⟨h.1, by rw [← mwl_congr hf]; exact h.2⟩
/-- a child's cells are the parent's behind it -/
theorem GW.up {D : va_G} {z n n' a : Nat} {I F : Nat → va_E} {e : va_E} {H : Heap} (h : GW D z n' (cut I n (I n) (cut I a e F)) H) (ha : a < n) : GW D z n' (cut I a e F) H := by
  refine h.cg fun k hk => ?_
  by_cases c : k < n
  · exact cut_lt c
  · rw [cut_gt (I := I) (F := F) (show a < k by omega)]
    by_cases c2 : k = n
    · subst c2; exact cut_eq
    · exact cut_gt (by omega)
def PreC (D : va_G) (cy : Nat → ClassId) (z a : Nat) (f : Nat → va_E) : Array Value → State → Prop := va_Pc [.ref (z + a)] (fun U => GW D z (a + 1) f U.heap ∧ Amb D cy z U U.heap)
theorem PreC.blind {D : va_G} {cy : Nat → ClassId} {z a : Nat} {f : Nat → va_E} : FrameBlind (PreC D cy z a f) := by
  intro a U g mk h
  obtain ⟨h1, h2, h3⟩ := h
  exact ⟨h1, h2, h3.same (U := U.calling g mk a) rfl⟩
def PoC (D : va_G) (z n : Nat) (f : Nat → va_E) : Array Value → State → Outcome → State → Prop := va_Qv (fun _ : Unit => True) (fun _ U => GW D z n f U.heap) (fun q => z ≤ q)
def KC (l : Launch) (y : MethodName) (bc : ByteArray) (f lo mc ms : Nat) (D : va_G) (cy : Nat → ClassId) (z a n : Nat) (e : va_E) (F : Nat → va_E) : Prop :=
  Met l y (.code y bc 1 none :: WA) { frames := f, cells := mc, slots := ms, locals := lo } (PreC D cy z a (cut (IN z cy) a e F)) (PoC D z n (cut (IN z cy) a (IN z cy a) F)) mc ms (fz z)
theorem metC_of {l : Launch} {y : MethodName} {bc : ByteArray} {rm : Room} {D : va_G} {cy : Nat → ClassId} {z a : Nat} {f : Nat → va_E} {Qc : Array Value → State → Outcome → State → Prop} {mc ms : Nat} (own : String) (hy : plainFor y = true) (ho : y.cls = own)
    (body : ∀ p e s m args below meth c, Bd p s m args meth c bc 1 none own D cy z → meth.name = y.name → GW D z (a + 1) f s.heap → va_S (fz z) s.heap s.heap [] → z ≤ s.heap.size → ∀ ls : Array Slot, lv_has ls 1 [(0, .ref (z + a))] → W p l e rm s m args below meth c s.heap [] 0 0 (MQ below Qc args s mc ms (fz z)) (F0 m 0 ls [])) :
    Met l y (.code y bc 1 none :: WA) rm (PreC D cy z a f) Qc mc ms (fz z) := by
  refine met_body (cc := bc) (maxL := 1) (ret := none) hy rfl ?_
  intro p e s m args below meth c s₁ B hml hv
  obtain ⟨rfl, hG, hAm⟩ := hv
  have hts := atoms_spec (ws := .code y bc 1 none :: WA) B.pre
  have hown : s.vm.findClass own = some m.cls := by rw [← ho]; exact findClass_of_methodNamed B.named
  rw [lg_entry_eq]
  exact body p e s m [Value.ref (z + a)].toArray below meth c ⟨B.exec, B.bytes, B.returns, hml, hown, fun w h => hts w (List.mem_cons_of_mem _ h), B.notSynchronized, hAm⟩ (name_of_methodNamed B.named B.method).1 hG va_S.rf (by rw [hG.1]; omega) _ (lv_entry [.ref (z + a)] (Nat.le_of_ble_eq_true rfl))
section RowsC
variable {p : Program} {l : Launch} {e : Env} {Rm : Room} {s : State} {m : MethodId} {args : Array Value} {below : List Frame} {meth : Method} {c : Code} {H : Heap} {locs : List Loc} {cells slots : Nat} {Q : State → Prop}
variable {cc : ByteArray} {nl : Nat} {rt : Option FieldType} {own : String} {D : va_G} {cy : Nat → ClassId} {z n a : Nat} {f F : Nat → va_E} {pc : Nat} {ls : Array Slot} {rest : List Value}
theorem GW.push {H1 : Heap} {x : va_E} {I : Nat → va_E} (h : GW D z n f H) (z1 : H1.size = z + n + 1) (o1 : ∀ q, q < z + n → H1[q]? = H[q]?) (hx : va_at D vwCl (z + n, x) H1) : GW D z (n + 1) (cut I n x f) H1 := by
  refine ⟨by omega, ?_⟩
  have hP1 : va_P D vwCl (mwl z n f) H1 := h.2.kept (fun k q hq => o1 q.1 (by rw [← h.1]; exact (h.2 k q hq).lt))
  intro k q hq
  obtain ⟨hk, rfl⟩ := mwl_of hq
  by_cases c : k < n
  · rw [cut_lt c]
    exact hP1 k _ (mwl_at c)
  · have : k = n := by omega
    subst this
    rw [cut_eq]
    exact hx
theorem c_new (C : Bd p s m args meth c cc nl rt own D cy z) (hG : GW D z n f H) (hS : va_S (fz z) s.heap H locs) {ci N idx : Nat} {R : String} {T : u_T} {ty0 : Nat → FieldType} {fs : List Value} (hc : vwCl[ci]? = some (R, T, N)) (hin : ∀ w ∈ u_ws R T N, w ∈ WA) (hty : ∀ k, k < N → parseFieldDescriptor (T k).2.2.1 = some (ty0 k))
    (hlk : Cond.classLink own idx R ∈ WA) (hinst : Cond.instantiable R N ∈ WA) (hini : Cond.initialized R ∈ WA) (hfs : ∀ j, j < N → defaultValue (ty0 j) = vp_V fs j) (hcells : cells + 1 ≤ Rm.cells) (hslots : slots + N ≤ Rm.slots) (hdg : decode cc pc = .ok (.new idx, 3))
    (kk : ∀ H1 : Heap, GW D z (n + 1) (cut (IN z cy) n (.inr (ci, fs)) f) H1 → va_S (fz z) s.heap H1 locs → W p l e Rm s m args below meth c H1 locs (cells + 1) (slots + N) Q (F0 m (pc + 3) ls (.ref (z + n) :: rest))) : W p l e Rm s m args below meth c H locs cells slots Q (F0 m pc ls rest) := by
  obtain ⟨hx, hb, hr, hml, hown, hW, hlocks, hAm⟩ := C
  have hKn := hAm.1.1 ci _ hc
  refine W.newcK hx hb hown (hW _ hlk) (hW _ hinst) (hW _ hini) rfl hdg hcells hslots hKn.2.1 hG.1 fun H1 kC hkC e1 z1 o1 => ?_
  refine kk H1 (hG.push z1 o1 ⟨_, hc, (u_born ty0 hW hin hKn hkC e1 hty).to hfs⟩) ⟨by have := hS.1; rw [hG.1] at this; omega, fun x h1 h2 => (o1 x ?_).trans (hS.2.1 x h1 h2), hS.2.2⟩
  have := hS.1
  rw [hG.1] at this
  omega
theorem c_newa {I : Nat → va_E} (C : Bd p s m args meth c cc nl rt own D cy z) (hG : GW D z n f H) (hS : va_S (fz z) s.heap H locs) {at0 : ArrayType} {ty : FieldType} (harr : Cond.arrayClass ty ∈ WA) (hty : newarray.typeOf at0 = ty) {t0 N : Nat} {v : Int32} {x : vp_A} (ht : (tyc cy)[t0]? = some (cy t0, ty)) (hra : va_RA s (cy t0) ty → s.vm.findClass ("[" ++ ty.toString) = some (cy t0)) (hxa : vp_cell (cy t0) x = arrV (cy t0) N (fun _ => defaultValue ty)) (hn : ¬ v < 0) (hN : v.toNatClampNeg = N) (hbytes : N * componentBytes ty ≤ 536870912) (hcells : cells + 1 ≤ Rm.cells) (hslots : slots + N ≤ Rm.slots) (hdg : decode cc pc = .ok (.newarray at0, 2))
    (kk : ∀ H1 : Heap, GW D z (n + 1) (cut I n (.inl (cy t0, x)) f) H1 → va_S (fz z) s.heap H1 locs → W p l e Rm s m args below meth c H1 locs (cells + 1) (slots + N) Q (F0 m (pc + 2) ls (.ref (z + n) :: rest))) : W p l e Rm s m args below meth c H locs cells slots Q (F0 m pc ls (.int v :: rest)) := by
  obtain ⟨hx, hb, hr, hml, hown, hW, hlocks, hAm⟩ := C
  subst hty
  refine va_newaK hx hb (hW _ harr) rfl hdg rfl hn hN hbytes hcells hslots hG.1 fun H1 cA e1 z1 o1 hAr hNm => ?_
  have hcy := hra (hAm.1.2 t0 _ ht).2
  have hcA : cA = cy t0 := Option.some.inj (hNm.symm.trans hcy)
  subst hcA
  refine kk H1 (hG.push z1 o1 ?_) ⟨by have := hS.1; rw [hG.1] at this; omega, fun x h1 h2 => (o1 x ?_).trans (hS.2.1 x h1 h2), hS.2.2⟩
  · show H1[z + n]? = some (vp_cell _ _)
    rw [hxa]
    exact e1
  · have := hS.1
    rw [hG.1] at this
    omega
theorem GW.set {H1 : Heap} {x y : va_E} {I : Nat → va_E} (h : GW D z n (cut I a x F) H) (ha : a < n) (z1 : H1.size = H.size) (o1 : ∀ q, q ≠ z + a → H1[q]? = H[q]?) (hy : va_at D vwCl (z + a, y) H1) : GW D z n (cut I a y F) H1 := by
  refine ⟨by rw [z1]; exact h.1, ?_⟩
  intro k q hq
  obtain ⟨hk, rfl⟩ := mwl_of hq
  by_cases c : k = a
  · subst c
    rw [cut_eq]
    exact hy
  · have hP := h.2.kept (H1 := H) (fun _ _ _ => rfl)
    have h1 := va_P.kept (ws := [(z + k, cut I a x F k)]) (D := D) (cl := vwCl) (H := H) (H1 := H1) (fun i q hi => by
      cases i with
      | zero => cases hi; exact hP k _ (mwl_at hk)
      | succ i => simp at hi) (fun i q hi => by
      cases i with
      | zero => cases hi; exact o1 _ (by show z + k ≠ z + a; omega)
      | succ i => simp at hi)
    have h2 := h1 0 _ rfl
    have e : cut I a y F k = cut I a x F k := by
      by_cases c2 : k < a
      · rw [cut_lt c2, cut_lt c2]
      · rw [cut_gt (by omega), cut_gt (by omega)]
    rw [e]
    exact h2
theorem c_putF {I : Nat → va_E} {ci : Nat} {fs : List Value} (C : Bd p s m args meth c cc nl rt own D cy z) (hG : GW D z n (cut I a (.inr (ci, fs)) F) H) (hS : va_S (fz z) s.heap H locs) (ha : a < n) {N idx j : Nat} {R : String} {T : u_T} {ty0 : Nat → FieldType} {v : Value} {ty : FieldType} (hc : vwCl[ci]? = some (R, T, N)) (hin : ∀ w ∈ u_ws R T N, w ∈ WA) (hty : ∀ k, k < N → parseFieldDescriptor (T k).2.2.1 = some (ty0 k)) (hnm : ∀ a, a < N → ∀ b, b < N → a ≠ b → (T a).2.1 ≠ (T b).2.1) (hj : j < N) (hd1 : (T j).1 = R) (hfin : (T j).2.2.2 = true) (hmn : meth.name = "<init>") (hdecl : R = own) (hd : parseFieldDescriptor (T j).2.2.1 = some ty) (hn : narrow ty v = v) (hfit : fits ty v = true)
    (hl : Cond.fieldLink own idx R (T j).2.1 (T j).2.2.1 ∈ WA) (hjl : j < fs.length) (hdg : decode cc pc = .ok (.putfield idx, 3))
    (kk : ∀ (H1 : Heap) (locs1 : List Loc), GW D z n (cut I a (.inr (ci, fs.set j v)) F) H1 → va_S (fz z) s.heap H1 locs1 → W p l e Rm s m args below meth c H1 locs1 cells slots Q (F0 m (pc + 3) ls rest)) : W p l e Rm s m args below meth c H locs cells slots Q (F0 m pc ls (v :: .ref (z + a) :: rest)) := by
  obtain ⟨hx, hb, hr, hml, hown, hW, hlocks, hAm⟩ := C
  have hap := va_apart (own := own) hW hin ty0 hty hnm hAm.1 hc
  obtain ⟨r, h1, cell, q1, q2, q3, q4⟩ := hG.2 a (z + a, .inr (ci, fs)) (by rw [mwl_at ha, cut_eq])
  have hr9 : r = (R, T, N) := Option.some.inj (h1.symm.trans hc)
  subst hr9
  obtain ⟨hS0, hfc, kC, hkC, hkind⟩ := hAm.1.1 ci _ hc
  obtain ⟨cf, kf, fi, f9, hi, hsl⟩ := hS0 j hj
  have hlay := hW _ (hin _ (u_in_lay hj))
  unfold u_lay at hlay
  rw [if_pos hfin] at hlay
  have hst := (u_facts hfc hkC (u_lays hW hin hj) hi).1
  have hcf : m.cls = cf := by
    obtain ⟨_, _, c', _, _, _, -, -, hf', -, -, -, hown2, -⟩ := Cond.laysFinal_spec hlay
    have e1 : c' = cf := by have := hi.symm.trans hf'; simp at this; exact this.1.symm
    rw [hd1, hdecl] at hown2
    rw [← e1]
    exact Option.some.inj (hown.symm.trans hown2)
  have h6 := u_fits hfc hkC hkind (Or.inr hlay) hi hd hn hfit
  refine W.putFinK hx hb hown (hW _ hl) (by rw [hd1] at hi; exact hi) hst hcf hmn (by rw [q2]; exact h6) q1 q3 (by rw [hsl]; exact k2_hasslot (q4 j hj)) rfl rfl hdg fun H' e1 e2 e3 => ?_
  rw [hsl] at e1 ⊢
  exact kk H' _ (hG.set ha e2 e3 ⟨_, hc, t_OB.to (V := updV (vp_V fs) j v) ⟨_, e1, q2, q3, t_set q4 hap hj v⟩ (fun i _ => vp_updV_set hjl v i)⟩) (hS.put e2 e3 (Nat.le_add_right _ _))
theorem c_put {I : Nat → va_E} {ci : Nat} {fs : List Value} (C : Bd p s m args meth c cc nl rt own D cy z) (hG : GW D z n (cut I a (.inr (ci, fs)) F) H) (hS : va_S (fz z) s.heap H locs) (ha : a < n) {N idx j : Nat} {R : String} {T : u_T} {ty0 : Nat → FieldType} {v : Value} {ty : FieldType} (hc : vwCl[ci]? = some (R, T, N)) (hin : ∀ w ∈ u_ws R T N, w ∈ WA) (hty : ∀ k, k < N → parseFieldDescriptor (T k).2.2.1 = some (ty0 k)) (hnm : ∀ a, a < N → ∀ b, b < N → a ≠ b → (T a).2.1 ≠ (T b).2.1) (hj : j < N) (hd1 : (T j).1 = R) (hfin : (T j).2.2.2 = false) (hd : parseFieldDescriptor (T j).2.2.1 = some ty) (hn : narrow ty v = v) (hfit : fits ty v = true)
    (hl : Cond.fieldLink own idx R (T j).2.1 (T j).2.2.1 ∈ WA) (hjl : j < fs.length) (hdg : decode cc pc = .ok (.putfield idx, 3))
    (kk : ∀ (H1 : Heap) (locs1 : List Loc), GW D z n (cut I a (.inr (ci, fs.set j v)) F) H1 → va_S (fz z) s.heap H1 locs1 → W p l e Rm s m args below meth c H1 locs1 cells slots Q (F0 m (pc + 3) ls rest)) : W p l e Rm s m args below meth c H locs cells slots Q (F0 m pc ls (v :: .ref (z + a) :: rest)) := by
  obtain ⟨hx, hb, hr, hml, hown, hW, hlocks, hAm⟩ := C
  have hap := va_apart (own := own) hW hin ty0 hty hnm hAm.1 hc
  obtain ⟨r, h1, cell, q1, q2, q3, q4⟩ := hG.2 a (z + a, .inr (ci, fs)) (by rw [mwl_at ha, cut_eq])
  have hr9 : r = (R, T, N) := Option.some.inj (h1.symm.trans hc)
  subst hr9
  obtain ⟨hS0, hfc, kC, hkC, hkind⟩ := hAm.1.1 ci _ hc
  obtain ⟨cf, kf, fi, f9, hi, hsl⟩ := hS0 j hj
  have hlay := hW _ (hin _ (u_in_lay hj))
  unfold u_lay at hlay
  rw [if_neg (by rw [hfin]; decide)] at hlay
  have hst := (u_facts hfc hkC (u_lays hW hin hj) hi).1
  have h6 := u_store hfc hkC hkind hlay hi hd hn hfit
  refine W.putK hx hb (f := f9) ⟨hown, hW _ hl, ⟨_, _, _, (by rw [hd1] at hi; exact hi)⟩, hst⟩ (by rw [q2]; exact h6) q1 q3 (by rw [hsl]; exact k2_hasslot (q4 j hj)) rfl rfl hdg fun H' e1 e2 e3 => ?_
  rw [hsl] at e1 ⊢
  exact kk H' _ (hG.set ha e2 e3 ⟨_, hc, t_OB.to (V := updV (vp_V fs) j v) ⟨_, e1, q2, q3, t_set q4 hap hj v⟩ (fun i _ => vp_updV_set hjl v i)⟩) (hS.put e2 e3 (Nat.le_add_right _ _))
theorem c_runN (C : Bd p s m args meth c cc nl rt own D cy z) {y : MethodName} {bc : ByteArray} {f1 lo mc ms n' idx : Nat} {x : va_E} (hM : KC l y bc f1 lo mc ms D cy z n n' x F) (hG : GW D z (n + 1) (cut (IN z cy) n x F) H) (hS : va_S (fz z) s.heap H locs) (hl : Cond.methodLinkNest own idx y "QuadSnail" ∈ nestW) (hini : Cond.initialized y.cls ∈ WA) (hinst : Cond.instanceMethod y ∈ WA) (hcode : Cond.code y bc 1 none ∈ WA) (hyn : y.name = "<init>") (hok : yOK y 0)
    (hR : f1 + 1 ≤ Rm.frames ∧ 8 + (1 + 11) + lo ≤ Rm.locals) (hrest : (rest.map fun v => v.category).sum ≤ 8) (hsz : ls.size = nl) (hcs : cells + mc ≤ Rm.cells ∧ slots + ms ≤ Rm.slots) (hdg : decode cc pc = .ok (.invokespecial idx, 3))
    (kk : ∀ (H1 : Heap) (locs1 : List Loc), GW D z n' (cut (IN z cy) n (IN z cy n) F) H1 → va_S (fz z) s.heap H1 locs1 → W p l e Rm s m args below meth c H1 locs1 (cells + mc) (slots + ms) Q (F0 m (pc + 3) ls rest)) : W p l e Rm s m args below meth c H locs cells slots Q (F0 m pc ls (.ref (z + n) :: rest)) := by
  obtain ⟨hx, hb, hr, hml, hown, hW, hlocks, hAm⟩ := C
  refine va_callv (va_runIN (As := []) (rest := rest) (b := z + n) ⟨hx, hb, hml, hown, hW⟩ hM ⟨va_cnB 0 hW (wa_cons hcode) rfl rfl rfl (hAm.2.1 _ hl) (hW _ hini) hok hR, hyn, hW _ hinst⟩ ⟨PreC.blind, fun U hU hW' => ⟨rfl, by rw [hU]; exact hG, hAm.warm hW' (by rw [hU]; exact hS.2.1)⟩⟩ rfl rfl hsz rfl (lv_room hrest) hdg hcs) hS (fun _ _ h => h) (fun _ h => h) (fun u t H1 locs1 ht hvm hpost hB hz hk1 hS1 => ?_)
  rw [ht] at hB
  exact kk H1 locs1 hB hS1
theorem c_runI (C : Bd p s m args meth c cc nl rt own D cy z) {y : MethodName} {bc : ByteArray} {f1 lo mc ms n' idx : Nat} {x : va_E} (hM : KC l y bc f1 lo mc ms D cy z n n' x F) (hG : GW D z (n + 1) (cut (IN z cy) n x F) H) (hS : va_S (fz z) s.heap H locs) (hl : Cond.methodLink own idx y ∈ WA) (hini : Cond.initialized y.cls ∈ WA) (hinst : Cond.instanceMethod y ∈ WA) (hcode : Cond.code y bc 1 none ∈ WA) (hyn : y.name = "<init>") (hok : yOK y 0)
    (hR : f1 + 1 ≤ Rm.frames ∧ 8 + (1 + 11) + lo ≤ Rm.locals) (hrest : (rest.map fun v => v.category).sum ≤ 8) (hsz : ls.size = nl) (hcs : cells + mc ≤ Rm.cells ∧ slots + ms ≤ Rm.slots) (hdg : decode cc pc = .ok (.invokespecial idx, 3))
    (kk : ∀ (H1 : Heap) (locs1 : List Loc), GW D z n' (cut (IN z cy) n (IN z cy n) F) H1 → va_S (fz z) s.heap H1 locs1 → W p l e Rm s m args below meth c H1 locs1 (cells + mc) (slots + ms) Q (F0 m (pc + 3) ls rest)) : W p l e Rm s m args below meth c H locs cells slots Q (F0 m pc ls (.ref (z + n) :: rest)) := by
  obtain ⟨hx, hb, hr, hml, hown, hW, hlocks, hAm⟩ := C
  refine va_callv (va_runI (As := []) (rest := rest) (b := z + n) ⟨hx, hb, hml, hown, hW⟩ hM (cwI 0 hW (wa_cons hcode) rfl rfl rfl (hW _ hini) (hW _ hl) (hW _ hinst) hyn hok hR) ⟨PreC.blind, fun U hU hW' => ⟨rfl, by rw [hU]; exact hG, hAm.warm hW' (by rw [hU]; exact hS.2.1)⟩⟩ rfl rfl hsz rfl (lv_room hrest) hdg hcs) hS (fun _ _ h => h) (fun _ h => h) (fun u t H1 locs1 ht hvm hpost hB hz hk1 hS1 => ?_)
  rw [ht] at hB
  exact kk H1 locs1 hB hS1
theorem c_ret (C : Bd p s m args meth c cc nl none own D cy z) (hG : GW D z n f H) (hS : va_S (fz z) s.heap H locs) (hf : ∀ k, k < n → f k = F k) (hdg : decode cc pc = .ok (.return_, 1)) : W p l e Rm s m args below meth c H locs cells slots (MQ below (PoC D z n F) args s cells slots (fz z)) (F0 m pc ls []) := by
  obtain ⟨hx, hb, hr, hml, hown, hW, hlocks, hAm⟩ := C
  exact W.vret hx hb hr (fun t ht hW => ⟨⟨(), rfl, trivial, by show GW D z n F t.heap; rw [ht]; exact hG.cg hf⟩, hS.F ht⟩) hS.2.2 hdg hlocks
theorem c_get {I : Nat → va_E} {ci : Nat} {fs : List Value} (C : Bd p s m args meth c cc nl rt own D cy z) (hG : GW D z n (cut I a (.inr (ci, fs)) F) H) (ha : a < n) {N idx j : Nat} {R : String} {T : u_T} {v : Value} (hc : vwCl[ci]? = some (R, T, N)) (hin : ∀ w ∈ u_ws R T N, w ∈ WA) (hj : j < N) (hd1 : (T j).1 = R)
    (hl : Cond.fieldLink own idx R (T j).2.1 (T j).2.2.1 ∈ WA) (hv : fs[j]? = some v) (hdg : decode cc pc = .ok (.getfield idx, 3)) (kk : W p l e Rm s m args below meth c H locs cells slots Q (F0 m (pc + 3) ls (v :: rest))) : W p l e Rm s m args below meth c H locs cells slots Q (F0 m pc ls (.ref (z + a) :: rest)) := by
  obtain ⟨hx, hb, hr, hml, hown, hW, hlocks, hAm⟩ := C
  exact va_get (D := D) (ci := ci) (v := v) (C := R) (T := T) (N := N) hx hb hW hin hown hAm.1 hG.2 a (by rw [mwl_at ha, cut_eq]) hc j hj (hW _ hl) (fun x h => by rw [hd1] at h; exact h) hv hdg kk
theorem c_iast (C : Bd p s m args meth c cc nl rt own D cy z) (hG : GW D z n f H) (hS : va_S (fz z) s.heap H locs) {k N : Nat} {g : Nat → Int32} {i x : Int32} (hk : k < n) (he : f k = .inl (cy 0, N, .inl g)) (hin : vp_in i N) (hdg : decode cc pc = .ok (.iastore, 1))
    (kk : ∀ (H1 : Heap) (locs1 : List Loc), GW D z n (fun j => if j = k then .inl (cy 0, N, .inl (upd g i.toNatClampNeg x)) else f j) H1 → va_S (fz z) s.heap H1 locs1 → W p l e Rm s m args below meth c H1 locs1 cells slots Q (F0 m (pc + 1) ls rest)) : W p l e Rm s m args below meth c H locs cells slots Q (F0 m pc ls (.int x :: .int i :: .ref (z + k) :: rest)) := by
  obtain ⟨hx, hb, hr, hml, hown, hW, hlocks, hAm⟩ := C
  have ha : (mwl z n f)[k]? = some (z + k, .inl (cy 0, N, .inl g)) := by rw [mwl_at hk, he]
  refine W.iast hx hb (hG.2 k _ ha) ((hAm.1.2 0 _ rfl).1 N (fun j => .int (g j))) (fun q => by cases q) (by show ¬ (i < 0 ∨ (arrV _ _ _).slots.size ≤ _); rw [arrV_size]; exact hin) rfl rfl hdg fun H1 e z1 oq => ?_
  refine kk H1 _ ⟨by rw [z1]; exact hG.1, ?_⟩ (hS.put z1 oq (Nat.le_add_right _ _))
  have h2 := hG.2.set (e := .inl (cy 0, N, .inl (upd g i.toNatClampNeg x))) mwl_D ha ?_ oq
  · rw [mwl_set] at h2
    exact h2
  · show H1[z + k]? = some (vp_cell _ _)
    rw [e, vp_cell_i, vp_cell_i, arrV_store]
    congr 2
    funext q
    by_cases hq : q = i.toNatClampNeg
    · subst hq
      simp [updV, upd]
    · simp [updV, upd, hq]
end RowsC

theorem vpin_of {x : Int32} {n : Nat} {N : Int32} (h1 : ¬ x < 0) (h2 : ¬ N ≤ x) (hN : N.toInt = n) : vp_in x n := by
  rw [vp_in_iff]
  have a : 0 ≤ x.toInt := by
    have := Int32.not_lt.mp h1
    have := Int32.le_iff_toInt_le.mp this
    simpa using this
  have b : x.toInt < N.toInt := by
    have := Int32.not_le.mp h2
    exact Int32.lt_iff_toInt_lt.mp this
  exact ⟨a, by rw [← hN]; exact b⟩
theorem vpin_of' {x : Int32} {n : Nat} {N : Int32} (h1 : ¬ x < 0) (h2 : x < N) (hN : N.toInt = n) : vp_in x n := vpin_of h1 (Int32.not_le.mpr h2) hN
theorem cI_le {x y : Int32} {a b : Nat} (hx : x = nI a) (hy : y = nI b) (ha : a < 2 ^ 31) (hb : b < 2 ^ 31) : x ≤ y ↔ a ≤ b := by rw [hx, hy]; exact nI_leI ha hb
theorem cI_lt {x y : Int32} {a b : Nat} (hx : x = nI a) (hy : y = nI b) (ha : a < 2 ^ 31) (hb : b < 2 ^ 31) : x < y ↔ a < b := by rw [hx, hy]; exact nI_ltI ha hb
theorem cI_eq {x y : Int32} {a b : Nat} (hx : x = nI a) (hy : y = nI b) (ha : a < 2 ^ 31) (hb : b < 2 ^ 31) : x = y ↔ a = b := by rw [hx, hy]; exact nI_eq ha hb
/-- lengths: of a log (its cell), of the text -/
def Ln (σ : Sg) (k : Nat) : Nat := (σ k 2).toNatClampNeg
def TL (σ : Sg) (k : Nat) : Nat := (σ k 1).toNatClampNeg
def LGA (σ : Sg) : Prop := ∀ q, kd q = 1 → ∃ L : Nat, L ≤ 16 ∧ σ q 2 = nI L
def TXA (σ : Sg) : Prop := ∀ q, kd q = 2 → ∃ L : Nat, L ≤ 80 ∧ σ q 1 = nI L
theorem LGA.of {σ : Sg} (h : LGA σ) {k : Nat} (hk : kd k = 1) : σ k 2 = nI (Ln σ k) ∧ Ln σ k ≤ 16 := by
  obtain ⟨L, h1, h2⟩ := h k hk
  have : Ln σ k = L := by unfold Ln; rw [h2]; exact nI_clamp (by omega)
  rw [this]
  exact ⟨h2, h1⟩
theorem TXA.of {σ : Sg} (h : TXA σ) {k : Nat} (hk : kd k = 2) : σ k 1 = nI (TL σ k) ∧ TL σ k ≤ 80 := by
  obtain ⟨L, h1, h2⟩ := h k hk
  have : TL σ k = L := by unfold TL; rw [h2]; exact nI_clamp (by omega)
  rw [this]
  exact ⟨h2, h1⟩
theorem i32_nat (x : Int32) : x.toInt ≤ (x.toNatClampNeg : Int) ∧ (0 ≤ x.toInt → (x.toNatClampNeg : Int) = x.toInt) := by
  have h : x.toNatClampNeg = x.toInt.toNat := rfl
  rw [h]
  exact ⟨Int.self_le_toNat _, fun h => Int.toNat_of_nonneg h⟩
theorem cr_s {x : Int32} {L : Nat} (hx : -1000 ≤ x.toInt ∧ x.toInt ≤ 1000000) (hL : L ≤ 16) (h : x ≤ nI L) : (nI L - x).toInt = (L : Int) - x.toInt ∧ x.toInt ≤ L := by
  have h1 : (nI L).toInt = (L : Int) := nI_toInt (by omega)
  have h2 : x.toInt ≤ L := by rw [← h1]; exact Int32.le_iff_toInt_le.mp h
  refine ⟨?_, h2⟩
  rw [Int32.toInt_sub, h1]
  apply Int.bmod_eq_of_le <;> omega
theorem cr_a {x : Int32} {L : Nat} (hx : -1000 ≤ x.toInt ∧ x.toInt ≤ 1000000) (hL : L ≤ 16) (h : x ≤ nI L) : nI L - x = nI ((nI L - x).toNatClampNeg) := by
  obtain ⟨h1, h2⟩ := cr_s hx hL h
  have h3 := (i32_nat (nI L - x)).2 (by omega)
  apply Int32.toInt_inj.mp
  rw [nI_toInt (by omega), h3]
theorem cr_b {x : Int32} {L : Nat} (hx : -1000 ≤ x.toInt ∧ x.toInt ≤ 1000000) (hL : L ≤ 16) (h : x ≤ nI L) : (nI L - x).toNatClampNeg ≤ 1016 := by
  obtain ⟨h1, h2⟩ := cr_s hx hL h
  have h3 := (i32_nat (nI L - x)).2 (by omega)
  omega
theorem re_b {x : Int32} {i n : Nat} (h : ¬ x ≤ nI i) (hn : x.toInt ≤ 1000000 ∧ (i = 0 ∨ (i : Int) ≤ x.toInt) ∧ x.toInt + 1 ≤ (i : Int) + ((n + 1 : Nat) : Int) ∧ 1 ≤ n + 1) : x.toInt ≤ 1000000 ∧ (i + 1 = 0 ∨ ((i + 1 : Nat) : Int) ≤ x.toInt) ∧ x.toInt + 1 ≤ ((i + 1 : Nat) : Int) + (n : Int) ∧ 1 ≤ n := by
  have h1 : (nI i).toInt = (i : Int) := nI_toInt (by omega)
  have h2 : (i : Int) < x.toInt := by
    rw [← h1]
    exact Int32.lt_iff_toInt_lt.mp (Int32.not_le.mp h)
  omega
theorem ne0_lt1 {x : Int32} (h : ¬ x < 1) : ¬ x = 0 := fun e => h (by rw [e]; decide)
theorem ne0_le1 {x : Int32} (h : 1 ≤ x) : ¬ x = 0 := fun e => absurd h (by rw [e]; decide)
theorem nar_z1 : narrow .boolean (.int 1) = .int 1 := by decide
theorem nar_z0 : narrow .boolean (.int 0) = .int 0 := by decide
theorem nar_i (x : Int32) : narrow .int (.int x) = .int x := rfl
theorem nar_c (x : Int32) : narrow .char (.int (chr x)) = .int (chr x) := pk_nc x
theorem chr_nar (x : Int32) : vp_nar .char x = chr x := by simp [chr, vp_nar, narrow]
section Rows
variable {p : Program} {l : Launch} {e : Env} {Rm : Room} {s : State} {m : MethodId} {args : Array Value} {below : List Frame} {meth : Method} {c : Code} {H : Heap} {locs : List Loc} {cells slots : Nat} {Q : State → Prop}
variable {cc : ByteArray} {nl : Nat} {rt : Option FieldType} {own : String} {D : va_G} {cy : Nat → ClassId} {z : Nat} {σ τ σ' τ' : Sg} {o : Int64} {d : UInt64} {pc : Nat} {ls : Array Slot} {rest st : List Value}
/-- a field is read -/
theorem g_get (C : Bd p s m args meth c cc nl rt own D cy z) (hP : WP D cy z σ τ o d H) {k ci j idx N : Nat} {fs : List Value} {T : u_T} {R : String} {v : Value} (hk : kd k ≠ 99) (he : ent z cy σ τ o d k = .inr (ci, fs)) (hc : vwCl[ci]? = some (R, T, N)) (hin : ∀ w ∈ u_ws R T N, w ∈ WA) (hj : j < N) (hd1 : (T j).1 = R)
    (hl : Cond.fieldLink own idx R (T j).2.1 (T j).2.2.1 ∈ WA) (hv : fs[j]? = some v) (hdg : decode cc pc = .ok (.getfield idx, 3)) (kk : W p l e Rm s m args below meth c H locs cells slots Q (F0 m (pc + 3) ls (v :: rest))) : W p l e Rm s m args below meth c H locs cells slots Q (F0 m pc ls (.ref (z + k) :: rest)) := by
  obtain ⟨hx, hb, hr, hml, hown, hW, hlocks, hAm⟩ := C
  exact va_get (D := D) (ci := ci) (v := v) (C := R) (T := T) (N := N) hx hb hW hin hown hAm.1 hP k (by rw [mwl_at (kd_lt hk), he]) hc j hj (hW _ hl) (fun x h => by rw [hd1] at h; exact h) hv hdg kk
theorem g_getN (C : Bd p s m args meth c cc nl rt own D cy z) (hP : WP D cy z σ τ o d H) {k ci j idx N : Nat} {fs : List Value} {T : u_T} {R host : String} {v : Value} (hk : kd k ≠ 99) (he : ent z cy σ τ o d k = .inr (ci, fs)) (hc : vwCl[ci]? = some (R, T, N)) (hin : ∀ w ∈ u_ws R T N, w ∈ WA) (hj : j < N) (hd1 : (T j).1 = R)
    (hl : Cond.fieldLinkNest own idx R (T j).2.1 (T j).2.2.1 host ∈ nestW) (hv : fs[j]? = some v) (hdg : decode cc pc = .ok (.getfield idx, 3)) (kk : W p l e Rm s m args below meth c H locs cells slots Q (F0 m (pc + 3) ls (v :: rest))) : W p l e Rm s m args below meth c H locs cells slots Q (F0 m pc ls (.ref (z + k) :: rest)) := by
  obtain ⟨hx, hb, hr, hml, hown, hW, hlocks, hAm⟩ := C
  exact va_getN (D := D) (ci := ci) (v := v) (C := R) (T := T) (N := N) hx hb hW hin hown hAm.1 hP k (by rw [mwl_at (kd_lt hk), he]) hc j hj (va_Nw.use rfl (hAm.2.1 _ hl)) (fun x h => by rw [hd1] at h; exact h) hv hdg kk
/-- a field is written -/
theorem g_put (C : Bd p s m args meth c cc nl rt own D cy z) (hP : WP D cy z σ τ o d H) (hS : va_S (fz z) s.heap H locs) {k ci j idx N : Nat} {fs : List Value} {T : u_T} {R : String} {v : Value} {ty : FieldType} {ty0 : Nat → FieldType} (hk : kd k ≠ 99) (he : ent z cy σ τ o d k = .inr (ci, fs)) (hc : vwCl[ci]? = some (R, T, N)) (hin : ∀ w ∈ u_ws R T N, w ∈ WA) (hty : ∀ k, k < N → parseFieldDescriptor (T k).2.2.1 = some (ty0 k)) (hnm : ∀ a, a < N → ∀ b, b < N → a ≠ b → (T a).2.1 ≠ (T b).2.1) (hj : j < N) (hd1 : (T j).1 = R) (hfin : (T j).2.2.2 = false) (hd : parseFieldDescriptor (T j).2.2.1 = some ty) (hn : narrow ty v = v) (hfit : fits ty v = true)
    (hl : Cond.fieldLink own idx R (T j).2.1 (T j).2.2.1 ∈ WA) (hjl : j < fs.length) (hnew : (.inr (ci, fs.set j v) : va_E) = ent z cy σ' τ' o d k) (hne : ∀ i, i ≠ k → ent z cy σ τ o d i = ent z cy σ' τ' o d i) (hdg : decode cc pc = .ok (.putfield idx, 3))
    (kk : ∀ (H1 : Heap) (locs1 : List Loc), WP D cy z σ' τ' o d H1 → va_S (fz z) s.heap H1 locs1 → W p l e Rm s m args below meth c H1 locs1 cells slots Q (F0 m (pc + 3) ls rest)) : W p l e Rm s m args below meth c H locs cells slots Q (F0 m pc ls (v :: .ref (z + k) :: rest)) := by
  obtain ⟨hx, hb, hr, hml, hown, hW, hlocks, hAm⟩ := C
  exact va_put (D := D) (ci := ci) (v := v) (ty := ty) (C := R) (T := T) (N := N) hx hb hW hin ty0 hty hnm hown hAm.1 hP mwl_D hS k (by rw [mwl_at (kd_lt hk), he]) hc j hj (hW _ hl) (fun x h => by rw [hd1] at h; exact h) hfin hd hn hfit hjl hdg (fun H1 locs1 hP1 _ hS1 => kk H1 locs1 (WP.put hP1 hnew hne) hS1)
theorem g_putN (C : Bd p s m args meth c cc nl rt own D cy z) (hP : WP D cy z σ τ o d H) (hS : va_S (fz z) s.heap H locs) {k ci j idx N : Nat} {fs : List Value} {T : u_T} {R host : String} {v : Value} {ty : FieldType} {ty0 : Nat → FieldType} (hk : kd k ≠ 99) (he : ent z cy σ τ o d k = .inr (ci, fs)) (hc : vwCl[ci]? = some (R, T, N)) (hin : ∀ w ∈ u_ws R T N, w ∈ WA) (hty : ∀ k, k < N → parseFieldDescriptor (T k).2.2.1 = some (ty0 k)) (hnm : ∀ a, a < N → ∀ b, b < N → a ≠ b → (T a).2.1 ≠ (T b).2.1) (hj : j < N) (hd1 : (T j).1 = R) (hfin : (T j).2.2.2 = false) (hd : parseFieldDescriptor (T j).2.2.1 = some ty) (hn : narrow ty v = v) (hfit : fits ty v = true)
    (hl : Cond.fieldLinkNest own idx R (T j).2.1 (T j).2.2.1 host ∈ nestW) (hjl : j < fs.length) (hnew : (.inr (ci, fs.set j v) : va_E) = ent z cy σ' τ' o d k) (hne : ∀ i, i ≠ k → ent z cy σ τ o d i = ent z cy σ' τ' o d i) (hdg : decode cc pc = .ok (.putfield idx, 3))
    (kk : ∀ (H1 : Heap) (locs1 : List Loc), WP D cy z σ' τ' o d H1 → va_S (fz z) s.heap H1 locs1 → W p l e Rm s m args below meth c H1 locs1 cells slots Q (F0 m (pc + 3) ls rest)) : W p l e Rm s m args below meth c H locs cells slots Q (F0 m pc ls (v :: .ref (z + k) :: rest)) := by
  obtain ⟨hx, hb, hr, hml, hown, hW, hlocks, hAm⟩ := C
  exact va_putN (D := D) (ci := ci) (v := v) (ty := ty) (C := R) (T := T) (N := N) hx hb hW hin ty0 hty hnm hown hAm.1 hP mwl_D hS k (by rw [mwl_at (kd_lt hk), he]) hc j hj (va_Nw.use rfl (hAm.2.1 _ hl)) (fun x h => by rw [hd1] at h; exact h) hfin hd hn hfit hjl hdg (fun H1 locs1 hP1 _ hS1 => kk H1 locs1 (WP.put hP1 hnew hne) hS1)
/-- arrays of ints: read, written, measured -/
theorem g_iald (C : Bd p s m args meth c cc nl rt own D cy z) (hP : WP D cy z σ τ o d H) {k n : Nat} {f : Nat → Int32} {i : Int32} (hk : kd k ≠ 99) (he : ent z cy σ τ o d k = .inl (cy 0, n, .inl f)) (hin : vp_in i n) (hdg : decode cc pc = .ok (.iaload, 1)) (kk : W p l e Rm s m args below meth c H locs cells slots Q (F0 m (pc + 1) ls (.int (f i.toNatClampNeg) :: rest))) : W p l e Rm s m args below meth c H locs cells slots Q (F0 m pc ls (.int i :: .ref (z + k) :: rest)) := by
  obtain ⟨hx, hb, hr, hml, hown, hW, hlocks, hAm⟩ := C
  exact va_iald hx hb hAm.1 hP k 0 (by rw [mwl_at (kd_lt hk), he]) rfl hin hdg kk
theorem g_cald (C : Bd p s m args meth c cc nl rt own D cy z) (hP : WP D cy z σ τ o d H) {k n : Nat} {f : Nat → Int32} {i : Int32} (hk : kd k ≠ 99) (he : ent z cy σ τ o d k = .inl (cy 1, n, .inl f)) (hin : vp_in i n) (hdg : decode cc pc = .ok (.caload, 1)) (kk : W p l e Rm s m args below meth c H locs cells slots Q (F0 m (pc + 1) ls (.int (f i.toNatClampNeg) :: rest))) : W p l e Rm s m args below meth c H locs cells slots Q (F0 m pc ls (.int i :: .ref (z + k) :: rest)) := by
  obtain ⟨hx, hb, hr, hml, hown, hW, hlocks, hAm⟩ := C
  exact va_cald hx hb hAm.1 hP k 1 (by rw [mwl_at (kd_lt hk), he]) rfl hin hdg kk
theorem g_iast (C : Bd p s m args meth c cc nl rt own D cy z) (hP : WP D cy z σ τ o d H) (hS : va_S (fz z) s.heap H locs) {k n : Nat} {f : Nat → Int32} {i x : Int32} (hk : kd k ≠ 99) (he : ent z cy σ τ o d k = .inl (cy 0, n, .inl f)) (hin : vp_in i n) (hnew : (.inl (cy 0, n, .inl (upd f i.toNatClampNeg x)) : va_E) = ent z cy σ' τ' o d k) (hne : ∀ i, i ≠ k → ent z cy σ τ o d i = ent z cy σ' τ' o d i) (hdg : decode cc pc = .ok (.iastore, 1))
    (kk : ∀ (H1 : Heap) (locs1 : List Loc), WP D cy z σ' τ' o d H1 → va_S (fz z) s.heap H1 locs1 → W p l e Rm s m args below meth c H1 locs1 cells slots Q (F0 m (pc + 1) ls rest)) : W p l e Rm s m args below meth c H locs cells slots Q (F0 m pc ls (.int x :: .int i :: .ref (z + k) :: rest)) := by
  obtain ⟨hx, hb, hr, hml, hown, hW, hlocks, hAm⟩ := C
  exact va_iast hx hb hAm.1 hP mwl_D hS k 0 (by rw [mwl_at (kd_lt hk), he]) rfl hin hdg (fun H1 locs1 hP1 _ hS1 => kk H1 locs1 (WP.put hP1 hnew hne) hS1)
theorem g_cast (C : Bd p s m args meth c cc nl rt own D cy z) (hP : WP D cy z σ τ o d H) (hS : va_S (fz z) s.heap H locs) {k n : Nat} {f : Nat → Int32} {i x : Int32} (hk : kd k ≠ 99) (he : ent z cy σ τ o d k = .inl (cy 1, n, .inl f)) (hin : vp_in i n) (hnew : (.inl (cy 1, n, .inl (upd f i.toNatClampNeg (vp_nar .char x))) : va_E) = ent z cy σ' τ' o d k) (hne : ∀ i, i ≠ k → ent z cy σ τ o d i = ent z cy σ' τ' o d i) (hdg : decode cc pc = .ok (.castore, 1))
    (kk : ∀ (H1 : Heap) (locs1 : List Loc), WP D cy z σ' τ' o d H1 → va_S (fz z) s.heap H1 locs1 → W p l e Rm s m args below meth c H1 locs1 cells slots Q (F0 m (pc + 1) ls rest)) : W p l e Rm s m args below meth c H locs cells slots Q (F0 m pc ls (.int x :: .int i :: .ref (z + k) :: rest)) := by
  obtain ⟨hx, hb, hr, hml, hown, hW, hlocks, hAm⟩ := C
  exact va_cast hx hb hAm.1 hP mwl_D hS k 1 (by rw [mwl_at (kd_lt hk), he]) rfl hin hdg (fun H1 locs1 hP1 _ hS1 => kk H1 locs1 (WP.put hP1 hnew hne) hS1)
theorem g_alen (C : Bd p s m args meth c cc nl rt own D cy z) (hP : WP D cy z σ τ o d H) {k t0 : Nat} {cA : ClassId} {x : vp_A} {ty : FieldType} {v : Int32} (hk : kd k ≠ 99) (he : ent z cy σ τ o d k = .inl (cA, x)) (ht : (tyc cy)[t0]? = some (cA, ty)) (hv : Int32.ofNat x.1 = v) (hdg : decode cc pc = .ok (.arraylength, 1)) (kk : W p l e Rm s m args below meth c H locs cells slots Q (F0 m (pc + 1) ls (.int v :: rest))) : W p l e Rm s m args below meth c H locs cells slots Q (F0 m pc ls (.ref (z + k) :: rest)) := by
  obtain ⟨hx, hb, hr, hml, hown, hW, hlocks, hAm⟩ := C
  exact va_alen hx hb hAm.1 hP k t0 (by rw [mwl_at (kd_lt hk), he]) ht hv hdg kk
/-- the end of a method -/
theorem ret_I (C : Bd p s m args meth c cc nl rt own D cy z) {r v : Int32} {σe τe : Sg} {ty : FieldType} (hP : WP D cy z σe τe o d H) (hS : va_S (fz z) s.heap H locs) (hn : narrow ty (.int v) = .int v) (hrt : rt = some ty) (hv : v = r) (hσ : σe = σ') (hτ : τe = τ') (hdg : decode cc pc = .ok (.ireturn, 1)) :
    W p l e Rm s m args below meth c H locs cells slots (MQ below (PoI D cy z o d r σ' τ') args s cells slots (fz z)) (F0 m pc ls [.int v]) := by
  obtain ⟨hx, hb, hr, hml, hown, hW, hlocks, hAm⟩ := C
  subst hσ
  subst hτ
  exact W.zret (ty := ty) hx hb (by rw [hr, hrt]) hn (fun t ht hW => ⟨⟨v, (), rfl, hv, by show WP D cy z σe τe o d t.heap; rw [ht]; exact hP⟩, hS.F ht⟩) hS.2.2 hdg hlocks
theorem ret_V (C : Bd p s m args meth c cc nl none own D cy z) {σe τe : Sg} (hP : WP D cy z σe τe o d H) (hS : va_S (fz z) s.heap H locs) (hσ : σe = σ') (hτ : τe = τ') (hdg : decode cc pc = .ok (.return_, 1)) :
    W p l e Rm s m args below meth c H locs cells slots (MQ below (PoV D cy z o d σ' τ') args s cells slots (fz z)) (F0 m pc ls []) := by
  obtain ⟨hx, hb, hr, hml, hown, hW, hlocks, hAm⟩ := C
  subst hσ
  subst hτ
  exact W.vret hx hb hr (fun t ht hW => ⟨⟨(), rfl, trivial, by show WP D cy z σe τe o d t.heap; rw [ht]; exact hP⟩, hS.F ht⟩) hS.2.2 hdg hlocks
theorem ret_R (C : Bd p s m args meth c cc nl rt own D cy z) {r v : Nat} {σe τe : Sg} {nm : String} (hP : WP D cy z σe τe o d H) (hS : va_S (fz z) s.heap H locs) (hrt : rt = some (.object nm)) (hv : v = r) (hσ : σe = σ') (hτ : τe = τ') (hdg : decode cc pc = .ok (.areturn, 1)) :
    W p l e Rm s m args below meth c H locs cells slots (MQ below (PoR D cy z o d r σ' τ') args s cells slots (fz z)) (F0 m pc ls [.ref (z + v)]) := by
  obtain ⟨hx, hb, hr, hml, hown, hW, hlocks, hAm⟩ := C
  subst hσ
  subst hτ
  subst hv
  exact W.aret (rt := .object nm) hx hb (by rw [hr, hrt]) (Or.inl ⟨_, rfl⟩) (Or.inr ⟨_, rfl⟩) (fun t ht hW => ⟨⟨(), _, rfl, trivial, rfl, by show WP D cy z σe τe o d t.heap; rw [ht]; exact hP⟩, hS.F ht⟩) hS.2.2 hdg hlocks
/-- calls -/
abbrev yOK (y : MethodName) (n : Nat) : Prop := y.cls ≠ "java/lang/invoke/MethodHandle" ∧ y.cls ≠ "java/lang/invoke/VarHandle" ∧ (parseMethodDescriptor y.desc).map (fun d => d.parameters.length) = some n
abbrev cwVt (y : MethodName) (bc : ByteArray) (nl : Nat) (rt : Option FieldType) (ci n : Nat) : Prop := Cond.instanceMethod y ∈ WA ∧ Cond.selects y.cls y y ∈ WA ∧ Cond.initialized y.cls ∈ WA ∧ Cond.code y bc nl rt ∈ WA ∧ yOK y n ∧ (∃ q : vw_C, vwCl[ci]? = some q ∧ q.1 = y.cls) ∧ ci ≤ 5
abbrev cwSt (y : MethodName) (bc : ByteArray) (nl : Nat) (rt : Option FieldType) (n : Nat) : Prop := Cond.static y ∈ WA ∧ Cond.initialized y.cls ∈ WA ∧ Cond.code y bc nl rt ∈ WA ∧ yOK y n
theorem ent_obj {k ci : Nat} (h : kd k = ci) (h6 : ci ≤ 5) : ∃ fs, ent z cy σ τ o d k = .inr (ci, fs) := by
  have : ci = 0 ∨ ci = 1 ∨ ci = 2 ∨ ci = 3 ∨ ci = 4 ∨ ci = 5 := by omega
  rcases this with rfl | rfl | rfl | rfl | rfl | rfl
  · exact ⟨_, ent_0 h⟩
  · exact ⟨_, ent_1 h⟩
  · exact ⟨_, ent_2 h⟩
  · exact ⟨_, ent_3 h⟩
  · exact ⟨_, ent_4 h⟩
  · exact ⟨_, ent_5 h⟩
theorem run_V (C : Bd p s m args meth c cc nl rt own D cy z) {y : MethodName} {bc : ByteArray} {nl' : Nat} {rt' : Option FieldType} {rm : Room} {As : List Value} {Qc : Array Value → State → Outcome → State → Prop} {kr ci idx : Nat}
    (hM : Met l y (.code y bc nl' rt' :: WA) rm (Pre D cy z (.ref (z + kr) :: As) σ τ o d) Qc 0 0 (fz z)) (hP : WP D cy z σ τ o d H) (hS : va_S (fz z) s.heap H locs) (cw : cwVt y bc nl' rt' ci As.length) (ml : Cond.methodLink own idx y ∈ WA) (hk : kd kr = ci) (h0 : rm.cells = 0 ∧ rm.slots = 0)
    (hR : rm.frames + 1 ≤ Rm.frames ∧ 8 + (nl' + 11) + rm.locals ≤ Rm.locals) (hst : st = As.reverse ++ .ref (z + kr) :: rest) (hrest : (rest.map fun v => v.category).sum ≤ 8) (hsz : ls.size = nl) (hcs : cells ≤ Rm.cells ∧ slots ≤ Rm.slots) (hdg : decode cc pc = .ok (.invokevirtual idx, 3)) :
    va_Run p l e Rm s m args below meth c H locs cells slots 0 0 (F0 m pc ls st) rest (Qc (Value.ref (z + kr) :: As).toArray) (fz z) := by
  obtain ⟨hx, hb, hr, hml, hown, hW, hlocks, hAm⟩ := C
  obtain ⟨w1, w2, w3, w4, ⟨hy1, hy2, hy3⟩, ⟨q, hq1, hq2⟩, h6⟩ := cw
  obtain ⟨fs, he⟩ := ent_obj (z := z) (cy := cy) (σ := σ) (τ := τ) (o := o) (d := d) hk h6
  have hrecv : ∃ cell : Cell, H[z + kr]? = some cell ∧ cell.vm.isStatics = false ∧ s.vm.findClass y.cls = some cell.cls := by
    rw [← hq2]
    exact va_recv hAm.1 hP (ci := ci) (q0 := kr) hq1 (by rw [mwl_at (kd_lt (by omega)), he])
  exact va_runV (As := As) (rest := rest) ⟨hx, hb, hml, hown, hW⟩ hM (cwV (C := y.cls) As.length hW (wa_app (ws := [.methodLink own idx y, .instanceMethod y, .selects y.cls y y, .initialized y.cls]) (by
    intro w hw
    simp only [List.mem_cons, List.not_mem_nil, or_false] at hw
    rcases hw with rfl | rfl | rfl | rfl <;> assumption) w4) rfl h0.1 h0.2 ⟨rfl, hy1, hy2, hy3⟩ hR)
    ⟨Pre.blind, hrecv, fun U hU hW' => ⟨rfl, by rw [hU]; exact hP, hAm.warm hW' (by rw [hU]; exact hS.2.1)⟩⟩ rfl rfl hsz hst (lv_room hrest) hdg hcs
theorem run_S (C : Bd p s m args meth c cc nl rt own D cy z) {y : MethodName} {bc : ByteArray} {nl' : Nat} {rt' : Option FieldType} {rm : Room} {As : List Value} {Qc : Array Value → State → Outcome → State → Prop} {idx : Nat}
    (hM : Met l y (.code y bc nl' rt' :: WA) rm (Pre D cy z As σ τ o d) Qc 0 0 (fz z)) (hP : WP D cy z σ τ o d H) (hS : va_S (fz z) s.heap H locs) (cw : cwSt y bc nl' rt' As.length) (ml : Cond.methodLink own idx y ∈ WA) (h0 : rm.cells = 0 ∧ rm.slots = 0)
    (hR : rm.frames + 1 ≤ Rm.frames ∧ 8 + (nl' + 11) + rm.locals ≤ Rm.locals) (hst : st = As.reverse ++ rest) (hrest : (rest.map fun v => v.category).sum ≤ 8) (hsz : ls.size = nl) (hcs : cells ≤ Rm.cells ∧ slots ≤ Rm.slots) (hdg : decode cc pc = .ok (.invokestatic idx, 3)) :
    va_Run p l e Rm s m args below meth c H locs cells slots 0 0 (F0 m pc ls st) rest (Qc As.toArray) (fz z) := by
  obtain ⟨hx, hb, hr, hml, hown, hW, hlocks, hAm⟩ := C
  obtain ⟨w1, w3, w4, hy1, hy2, hy3⟩ := cw
  exact va_runS (As := As) (rest := rest) ⟨hx, hb, hml, hown, hW⟩ hM (va_cwS As.length hW (wa_app (ws := [.methodLink own idx y, .static y, .initialized y.cls]) (by
    intro w hw
    simp only [List.mem_cons, List.not_mem_nil, or_false] at hw
    rcases hw with rfl | rfl | rfl <;> assumption) w4) rfl h0.1 h0.2 ⟨hy1, hy2, hy3⟩ hR)
    ⟨Pre.blind, fun U hU hW' => ⟨rfl, by rw [hU]; exact hP, hAm.warm hW' (by rw [hU]; exact hS.2.1)⟩⟩ rfl rfl hsz hst (lv_room hrest) hdg hcs
theorem thn_I {st0 : List Value} {a : Array Value} {r : Int32} (hr : va_Run p l e Rm s m args below meth c H locs cells slots 0 0 (F0 m pc ls st0) rest (PoI D cy z o d r σ' τ' a) (fz z)) (hS : va_S (fz z) s.heap H locs)
    (kk : ∀ (H1 : Heap) (locs1 : List Loc), WP D cy z σ' τ' o d H1 → va_S (fz z) s.heap H1 locs1 → W p l e Rm s m args below meth c H1 locs1 cells slots Q (F0 m (pc + 3) ls (.int r :: rest))) : W p l e Rm s m args below meth c H locs cells slots Q (F0 m pc ls st0) :=
  va_calli hr hS (fun _ _ h => h) (fun _ h => h) (fun r1 u t H1 locs1 ht hvm hpost hB hz hk1 hS1 => by
    subst hpost
    rw [ht] at hB
    exact kk H1 locs1 hB hS1)
theorem thn_V {st0 : List Value} {a : Array Value} (hr : va_Run p l e Rm s m args below meth c H locs cells slots 0 0 (F0 m pc ls st0) rest (PoV D cy z o d σ' τ' a) (fz z)) (hS : va_S (fz z) s.heap H locs)
    (kk : ∀ (H1 : Heap) (locs1 : List Loc), WP D cy z σ' τ' o d H1 → va_S (fz z) s.heap H1 locs1 → W p l e Rm s m args below meth c H1 locs1 cells slots Q (F0 m (pc + 3) ls rest)) : W p l e Rm s m args below meth c H locs cells slots Q (F0 m pc ls st0) :=
  va_callv hr hS (fun _ _ h => h) (fun _ h => h) (fun u t H1 locs1 ht hvm hpost hB hz hk1 hS1 => by
    rw [ht] at hB
    exact kk H1 locs1 hB hS1)
theorem thn_R {st0 : List Value} {a : Array Value} {r : Nat} (hr : va_Run p l e Rm s m args below meth c H locs cells slots 0 0 (F0 m pc ls st0) rest (PoR D cy z o d r σ' τ' a) (fz z)) (hS : va_S (fz z) s.heap H locs)
    (kk : ∀ (H1 : Heap) (locs1 : List Loc), WP D cy z σ' τ' o d H1 → va_S (fz z) s.heap H1 locs1 → W p l e Rm s m args below meth c H1 locs1 cells slots Q (F0 m (pc + 3) ls (.ref (z + r) :: rest))) : W p l e Rm s m args below meth c H locs cells slots Q (F0 m pc ls st0) :=
  va_callr hr hS (fun _ _ h => h) (fun _ h => h) (fun u ra t H1 locs1 ht hvm hpost hB hz hk1 hS1 => by
    obtain ⟨rfl, hB⟩ := hB
    rw [ht] at hB
    exact kk H1 locs1 hB hS1)
end Rows

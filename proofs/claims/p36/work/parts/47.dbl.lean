/-- doubles: what is no NaN -/
theorem nn_of {a : UInt64} (h : Jvm.FP.Core.dIsNaN a = false) : vf_n64 a := by
  unfold vf_n64
  rw [UInt64.le_iff_toNat_le, Jvm.FP.Core.mask_toNat]
  have h1 := mt (Jvm.FP.Core.isNaN_bits a).mpr (by rw [h]; decide)
  show _ ≤ 9218868437227405312
  omega
theorem fin_1000 : Jvm.FP.Core.DFin 4652007308841189376 := by
  rw [Jvm.FP.Core.fin_bits]
  decide
theorem nn_mul (x : Int32) : vf_n64 (FP.dmul 4652007308841189376 (FP.i2d x)) := nn_of (Jvm.FP.Core.dmul_out fin_1000 (Jvm.FP.Core.i2d_fin x))
theorem nz_i2d {y : Int32} (hy : ¬ y = 0) : ¬ Jvm.FP.Core.DZero (FP.i2d y) := by
  rw [Jvm.FP.Core.zero_bits2]
  exact Jvm.FP.Core.i2d_ne_zero hy
theorem nn_div1 {x y : Int32} (hy : ¬ y = 0) : vf_n64 (FP.ddiv (FP.dmul 4652007308841189376 (FP.i2d x)) (FP.i2d y)) :=
  nn_of (Jvm.FP.Core.ddiv_out (Jvm.FP.Core.dmul_out fin_1000 (Jvm.FP.Core.i2d_fin x)) (Jvm.FP.Core.i2d_fin y) (nz_i2d hy))
theorem lt1_ne {y : Int32} (h : 1 ≤ y) : ¬ y = 0 := fun e => by rw [e] at h; exact absurd h (by decide)
def PoD (D : va_G) (cy : Nat → ClassId) (z : Nat) (o : Int64) (d : UInt64) (r : UInt64) (σ τ : Sg) : Array Value → State → Outcome → State → Prop := va_Qd (fun (x : UInt64) (_ : Unit) => x = r) (fun _ U => WP D cy z σ τ o d U.heap) (fun q => z ≤ q)
def KD (l : Launch) (y : MethodName) (bc : ByteArray) (nl : Nat) (rt : Option FieldType) (rm : Room) (D : va_G) (cy : Nat → ClassId) (z : Nat) (As : List Value) (o : Int64) (d : UInt64) (σ τ : Sg) (r : UInt64) (σ' τ' : Sg) : Prop :=
  Met l y (.code y bc nl rt :: WA) rm (Pre D cy z As σ τ o d) (PoD D cy z o d r σ' τ') 0 0 (fz z)
section
variable {p : Program} {l : Launch} {e : Env} {s : State} {m : MethodId} {args : Array Value} {below : List Frame} {meth : Method} {c : Code} {cc : ByteArray} {nl : Nat} {rt : Option FieldType} {own : String} {D : va_G} {cy : Nat → ClassId} {z : Nat} {Rm : Room} {H : Heap} {locs : List Loc} {cells slots : Nat} {pc : Nat} {ls : Array Slot} {rest : List Value} {o : Int64} {d : UInt64} {σ' τ' : Sg} {Q : State → Prop}
theorem ret_D (C : Bd p s m args meth c cc nl (some .double) own D cy z) {r v : UInt64} {σe τe : Sg} (hP : WP D cy z σe τe o d H) (hS : va_S (fz z) s.heap H locs) (hv : v = r) (hσ : σe = σ') (hτ : τe = τ') (hdg : decode cc pc = .ok (.dreturn, 1)) :
    W p l e Rm s m args below meth c H locs cells slots (MQ below (PoD D cy z o d r σ' τ') args s cells slots (fz z)) (F0 m pc ls [.double v]) := by
  obtain ⟨hx, hb, hr, hml, hown, hW, hlocks, hAm⟩ := C
  subst hσ
  subst hτ
  exact W.dret hx hb hr (fun t ht hW => ⟨⟨v, (), rfl, hv, by show WP D cy z σe τe o d t.heap; rw [ht]; exact hP⟩, hS.F ht⟩) hS.2.2 hdg hlocks
theorem thn_D {st0 : List Value} {a : Array Value} {r : UInt64} (hr : va_Run p l e Rm s m args below meth c H locs cells slots 0 0 (F0 m pc ls st0) rest (PoD D cy z o d r σ' τ' a) (fz z)) (hS : va_S (fz z) s.heap H locs)
    (kk : ∀ (H1 : Heap) (locs1 : List Loc), WP D cy z σ' τ' o d H1 → va_S (fz z) s.heap H1 locs1 → W p l e Rm s m args below meth c H1 locs1 cells slots Q (F0 m (pc + 3) ls (.double r :: rest))) : W p l e Rm s m args below meth c H locs cells slots Q (F0 m pc ls st0) :=
  va_calld hr hS (fun _ _ h => h) (fun _ h => h) (fun r1 u t H1 locs1 ht hvm hpost hB hz hk1 hS1 => by
    subst hpost
    rw [ht] at hB
    exact kk H1 locs1 hB hS1)
end
theorem tk_add {x y : Int32} {i : Nat} (hx : (i : Int) ≤ x.toInt ∧ x.toInt ≤ 1000 * (i : Int)) (hi : i ≤ 16) (hy : 1 ≤ y.toInt ∧ y.toInt ≤ 1000) : ((i + 1 : Nat) : Int) ≤ (x + y).toInt ∧ (x + y).toInt ≤ 1000 * ((i + 1 : Nat) : Int) := by
  have e : (x + y).toInt = x.toInt + y.toInt := by
    rw [Int32.toInt_add]
    apply Int.bmod_eq_of_le <;> omega
  omega

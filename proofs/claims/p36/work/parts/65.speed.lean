/-! the speed lies between -2000 and 2000 -/
theorem di_1000 : Jvm.FP.Core.DInt 1000 4652007308841189376 := by
  have h := Jvm.FP.Core.i2d_int 1000
  rw [show Jvm.FP.Core.i2d 1000 = 4652007308841189376 by decide +kernel] at h
  exact h
theorem zv_2000 : Jvm.FP.Core.zval Jvm.FP.Core.b64 (Jvm.FP.Core.val64 4656510908468559872) = 2000 * (Jvm.FP.Core.one64 : Int) ∧ Jvm.FP.Core.zval Jvm.FP.Core.b64 (Jvm.FP.Core.val64 13879882945323335680) = -(2000 * (Jvm.FP.Core.one64 : Int)) ∧ Jvm.FP.Core.val64 4656510908468559872 ≠ .nan ∧ Jvm.FP.Core.val64 13879882945323335680 ≠ .nan ∧ Jvm.FP.Core.zmag Jvm.FP.Core.b64 (Jvm.FP.Core.val64 4656510908468559872) = 2000 * Jvm.FP.Core.one64 := by
  have h := Jvm.FP.Core.i2d_int 2000
  rw [show Jvm.FP.Core.i2d 2000 = 4656510908468559872 by decide +kernel] at h
  have g := Jvm.FP.Core.i2d_int (-2000)
  rw [show Jvm.FP.Core.i2d (-2000) = 13879882945323335680 by decide +kernel] at g
  refine ⟨Jvm.FP.Core.DInt_zval h, ?_, Jvm.FP.Core.DInt_ne_nan h, Jvm.FP.Core.DInt_ne_nan g, by decide +kernel⟩
  rw [Jvm.FP.Core.DInt_zval g, show (-2000 : Int32).toInt = -2000 from rfl, Int.neg_mul]
theorem sg_abs {s : Bool} {m : Nat} {i : Int} {u : Nat} (h : Jvm.FP.Core.signed s m = i * (u : Int)) : m = i.natAbs * u := by
  have := congrArg Int.natAbs h
  rw [Int.natAbs_mul, Int.natAbs_natCast] at this
  rw [← this]
  unfold Jvm.FP.Core.signed
  split
  · rw [Int.natAbs_neg, Int.natAbs_natCast]
  · rw [Int.natAbs_natCast]
theorem mul4 (a b c : Nat) : a * b * c * c = a * c * (b * c) := by rw [Nat.mul_assoc a b c, Nat.mul_comm b c, ← Nat.mul_assoc a c b, Nat.mul_assoc (a * c) b c, Nat.mul_comm b c]
theorem div_bd {x y : Int32} (hx : -32 ≤ x.toInt ∧ x.toInt ≤ 32) (hy : 1 ≤ y.toInt) (hxy : -(2 * y.toInt) ≤ x.toInt ∧ x.toInt ≤ 2 * y.toInt) :
    Jvm.FP.Core.val64 (FP.ddiv (FP.dmul 4652007308841189376 (FP.i2d x)) (FP.i2d y)) ≠ .nan ∧ Jvm.FP.Core.zmag Jvm.FP.Core.b64 (Jvm.FP.Core.val64 (FP.ddiv (FP.dmul 4652007308841189376 (FP.i2d x)) (FP.i2d y))) ≤ 2000 * Jvm.FP.Core.one64 := by
  have hX : Jvm.FP.Core.DInt (1000 * x.toInt) (FP.dmul 4652007308841189376 (FP.i2d x)) := Jvm.FP.Core.dmul_int di_1000 (Jvm.FP.Core.i2d_int x) (by omega)
  have hY : Jvm.FP.Core.DInt y.toInt (FP.i2d y) := Jvm.FP.Core.i2d_int y
  have zX := Jvm.FP.Core.DInt_zval hX
  have zY := Jvm.FP.Core.DInt_zval hY
  have nX := Jvm.FP.Core.DInt_ne_nan hX
  have fX := Jvm.FP.Core.val64_fits (FP.dmul 4652007308841189376 (FP.i2d x))
  have fY := Jvm.FP.Core.val64_fits (FP.i2d y)
  have e : Jvm.FP.Core.val64 (FP.ddiv (FP.dmul 4652007308841189376 (FP.i2d x)) (FP.i2d y)) = Jvm.FP.Core.quotient Jvm.FP.Core.b64 (Jvm.FP.Core.val64 (FP.dmul 4652007308841189376 (FP.i2d x))) (Jvm.FP.Core.val64 (FP.i2d y)) := Jvm.FP.Core.val64_ddiv _ _
  rw [e]
  unfold Jvm.FP.Core.DInt at hX hY
  generalize Jvm.FP.Core.val64 (FP.dmul 4652007308841189376 (FP.i2d x)) = X at hX zX fX
  generalize Jvm.FP.Core.val64 (FP.i2d y) = Y at hY zY fY
  cases X with
  | nan => exact hX.elim
  | inf s => exact hX.elim
  | fin s c q =>
    cases Y with
    | nan => exact hY.elim
    | inf t => exact hY.elim
    | fin t d r =>
      have aX := sg_abs (i := 1000 * x.toInt) (u := Jvm.FP.Core.one64) zX
      have aY := sg_abs (i := y.toInt) (u := Jvm.FP.Core.one64) zY
      have hone := Jvm.FP.Core.one64_pos
      have hd : d ≠ 0 := by
        intro h0
        have h2 : Jvm.FP.Core.zmag Jvm.FP.Core.b64 (.fin t d r) = 0 := by
          rw [h0]
          show 0 * _ = 0
          exact Nat.zero_mul _
        rw [h2] at aY
        have := Nat.mul_pos (show 0 < y.toInt.natAbs by omega) hone
        omega
      show Jvm.FP.Core.quotient Jvm.FP.Core.b64 (.fin s c q) (.fin t d r) ≠ .nan ∧ _
      have eq : Jvm.FP.Core.quotient Jvm.FP.Core.b64 (.fin s c q) (.fin t d r) = Jvm.FP.Core.roundRatio Jvm.FP.Core.b64 (s != t) c d (q - r) := by
        show (if d = 0 then _ else _) = _
        rw [if_neg hd]
      rw [eq]
      refine ⟨Jvm.FP.Core.roundRatio_ne_nan _ _ _ _ _, ?_⟩
      have hq := fX.2.1
      have hr := fY.2.1
      rw [Jvm.FP.Core.qmin_b64] at hq hr
      rw [← zv_2000.2.2.2.2]
      refine Jvm.FP.Core.zmag_roundRatio_le (e0 := -2148 - r) Jvm.FP.Core.good_b64 (Nat.pos_of_ne_zero hd) (Jvm.FP.Core.val64_fits _) zv_2000.2.2.1 (by rw [Jvm.FP.Core.qmin_b64]; omega) (by omega) ?_
      rw [zv_2000.2.2.2.2]
      have uX : c * 2 ^ (q + 1074).toNat = (1000 * x.toInt).natAbs * Jvm.FP.Core.one64 := by
        rw [← aX]
        show _ = c * 2 ^ (q - Jvm.FP.Core.b64.qmin).toNat
        rw [Jvm.FP.Core.qmin_b64, show q - -1074 = q + 1074 by omega]
      have uY : d * 2 ^ (r + 1074).toNat = y.toInt.natAbs * Jvm.FP.Core.one64 := by
        rw [← aY]
        show _ = d * 2 ^ (r - Jvm.FP.Core.b64.qmin).toNat
        rw [Jvm.FP.Core.qmin_b64, show r - -1074 = r + 1074 by omega]
      show c * 2 ^ (q - r - (-2148 - r)).toNat ≤ _
      rw [show (q - r - (-2148 - r)).toNat = (q + 1074).toNat + 1074 by omega, Jvm.FP.Core.qmin_b64, show (-1074 - (-2148 - r)).toNat = (r + 1074).toNat by omega, Nat.pow_add, ← Nat.mul_assoc, uX]
      rw [Nat.mul_assoc (2000 * Jvm.FP.Core.one64), Nat.mul_comm (2 ^ (r + 1074).toNat) d, uY]
      rw [show (2 : Nat) ^ 1074 = Jvm.FP.Core.one64 from rfl]
      have h1 : (1000 * x.toInt).natAbs ≤ 2000 * y.toInt.natAbs := by omega
      calc (1000 * x.toInt).natAbs * Jvm.FP.Core.one64 * Jvm.FP.Core.one64 ≤ 2000 * y.toInt.natAbs * Jvm.FP.Core.one64 * Jvm.FP.Core.one64 := Nat.mul_le_mul_right _ (Nat.mul_le_mul_right _ h1)
        _ = 2000 * Jvm.FP.Core.one64 * (y.toInt.natAbs * Jvm.FP.Core.one64) := mul4 _ _ _
/-- in words of the compares -/
def Spd (v : UInt64) : Prop := ¬ Op.cmpValue (FP.dcmp v 13879882945323335680) .l < 0 ∧ ¬ 0 < Op.cmpValue (FP.dcmp v 4656510908468559872) .g
theorem spd_of {v : UInt64} (hn : Jvm.FP.Core.val64 v ≠ .nan) (hm : Jvm.FP.Core.zmag Jvm.FP.Core.b64 (Jvm.FP.Core.val64 v) ≤ 2000 * Jvm.FP.Core.one64) : Spd v := by
  obtain ⟨z1, z2, n1, n2, -⟩ := zv_2000
  have hz : -(2000 * (Jvm.FP.Core.one64 : Int)) ≤ Jvm.FP.Core.zval Jvm.FP.Core.b64 (Jvm.FP.Core.val64 v) ∧ Jvm.FP.Core.zval Jvm.FP.Core.b64 (Jvm.FP.Core.val64 v) ≤ 2000 * (Jvm.FP.Core.one64 : Int) := by
    unfold Jvm.FP.Core.zval Jvm.FP.Core.signed
    split
    · constructor <;> omega
    · constructor <;> omega
  have g1 : Jvm.FP.Core.dcmp v 13879882945323335680 = some .gt ∨ Jvm.FP.Core.dcmp v 13879882945323335680 = some .eq := Jvm.FP.Core.dcmp_ge.mpr ⟨hn, n2, by rw [z2]; exact hz.1⟩
  have g2 : Jvm.FP.Core.dcmp v 4656510908468559872 = some .lt ∨ Jvm.FP.Core.dcmp v 4656510908468559872 = some .eq := Jvm.FP.Core.dcmp_le.mpr ⟨hn, n1, by rw [z1]; exact hz.2⟩
  constructor
  · show ¬ Op.cmpValue (Jvm.FP.Core.dcmp v 13879882945323335680) .l < 0
    rcases g1 with q | q <;> rw [q] <;> decide
  · show ¬ 0 < Op.cmpValue (Jvm.FP.Core.dcmp v 4656510908468559872) .g
    rcases g2 with q | q <;> rw [q] <;> decide
theorem gspd {σ : Sg} {q L O : Nat} {s : Int32} {E : Nat → Nat → Int32} (hL : LgN σ q s E L O) : ∀ (n i : Nat) (x y : Int32), i ≤ L → L + 1 ≤ i + n → ((i : Int) ≤ y.toInt ∧ y.toInt ≤ 1000 * i) → (-(2 * (i : Int)) ≤ x.toInt ∧ x.toInt ≤ 2 * i) → Spd (gf_X1_speed σ q L n x y i) := by
  intro n
  induction n with
  | zero => intro i x y h1 h2; exact absurd h2 (by omega)
  | succ n ih =>
    intro i x y h1 h2 hy hx
    have l1 := hL.1
    rw [gf_X1_speed]
    by_cases c : L ≤ i
    · rw [if_pos c]
      by_cases c2 : 1 ≤ y
      · rw [if_pos c2]
        have c3 := i1_le.mp c2
        obtain ⟨d1, d2⟩ := div_bd (x := x) (y := y) ⟨by omega, by omega⟩ c3 ⟨by omega, by omega⟩
        exact spd_of d1 d2
      · rw [if_neg c2]
        constructor <;> decide +kernel
    · rw [if_neg c]
      have hL' := hL
      obtain ⟨-, l2, l3, l4, l6, l7⟩ := hL
      have es := l6 (L - 1 - i) (by omega) 0 (by omega)
      have ep := l6 (L - 1 - i) (by omega) 1 (by omega)
      obtain ⟨-, n2, n3, -⟩ := l7 (L - 1 - i) (by omega)
      rw [show L - 1 - (L - 1 - i) = i by omega] at es ep
      rw [spent_nI l4 (by omega), step_nI l4 (by omega), es, ep]
      refine ih (i + 1) _ _ (by omega) (by omega) ?_ ?_
      · rw [Int32.toInt_add, bm (by omega) (by omega)]
        omega
      · rw [Int32.toInt_add, bm (by omega) (by omega)]
        omega
theorem spd_ok {σ : Sg} {k L B : Nat} {E : Nat → Nat → Int32} (hS : SnN σ k E L B) : Spd (f_X1_speed σ (k + 1)) := by
  obtain ⟨-, -, -, -, O, hL⟩ := hS
  have e1 : Ln σ (k + 1) = L := by unfold Ln; rw [hL.2.2.1]; exact nI_clamp (by have := hL.1; omega)
  unfold f_X1_speed
  rw [e1]
  exact gspd hL 17 0 0 0 (by omega) (by have := hL.1; omega) ⟨by decide, by decide⟩ ⟨by decide, by decide⟩

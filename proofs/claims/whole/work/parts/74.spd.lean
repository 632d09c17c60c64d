theorem sp_tab : ∀ a : Nat, a < 65 → FP.dmul 4652007308841189376 (FP.i2d (nI a - 32)) = FP.i2d (1000 * (nI a - 32)) := by decide +kernel

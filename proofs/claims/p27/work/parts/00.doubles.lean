/-! doubles: no NaN where none can be -/
theorem fp_n64 {r : UInt64} (h : FP.Core.val64 r ≠ .nan) : vf_n64 r := by
  have h1 := (FP.Core.ne_nan r).mp h
  unfold vf_n64
  rw [UInt64.le_iff_toNat_le, UInt64.toNat_and]
  have e1 : (0x7fffffffffffffff : UInt64).toNat = 2 ^ 63 - 1 := by decide +kernel
  have e2 : (0x7ff0000000000000 : UInt64).toNat = 9218868437227405312 := by decide +kernel
  rw [e1, e2, Nat.and_two_pow_sub_one_eq_mod]
  exact h1
theorem fp_i0 {b : Int32} (h : ¬ b = 0) : b.toInt ≠ 0 := fun e => h (Int32.toInt_inj.mp e)
theorem fp_nn : ∀ a b : Int32, ¬ b = 0 → FP.Core.val64 (FP.ddiv (FP.i2d a) (FP.i2d b)) ≠ .nan := fun a b hb => by
    have ha : FP.Core.dIsNaN (FP.i2d a) = false := by
      rw [FP.Core.notNaN_iff, FP.Core.ne_nan]
      have h : (FP.i2d a).toNat % 2 ^ 63 < 1056 * 2 ^ 52 := FP.Core.i2d_mag a
      omega
    have hz : ¬ FP.Core.DZero (FP.i2d b) := by
      rw [FP.Core.zero_bits2]
      have h : 1023 * 2 ^ 52 ≤ (FP.i2d b).toNat % 2 ^ 63 ∧ (FP.i2d b).toNat % 2 ^ 63 < 2047 * 2 ^ 52 := FP.Core.i2d_big (v := b) (fp_i0 hb)
      omega
    exact (FP.Core.notNaN_iff _).mp (FP.Core.ddiv_out ha (FP.Core.i2d_fin b) hz)
theorem fp_nnd : ∀ a b : Int32, ¬ b = 0 → vf_n64 (FP.ddiv (FP.i2d a) (FP.i2d b)) := fun a b hb => fp_n64 (fp_nn a b hb)
/-- a number is itself -/
theorem fp_self {x : UInt64} (h : FP.Core.val64 x ≠ .nan) (op : CmpOp) : Op.cmpValue (FP.dcmp x x) op = 0 := by
  have e : FP.dcmp x x = some .eq := FP.Core.order_self h
  rw [e]; rfl
theorem fp_zero : FP.Core.val64 FP.dconst0 ≠ .nan := by decide +kernel

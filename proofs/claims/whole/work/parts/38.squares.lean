/-! eight squares of an amplitude, and their order -/
theorem sq_9801 {a : Int} (h1 : -99 ≤ a) (h2 : a ≤ 99) : 0 ≤ a * a ∧ a * a ≤ 9801 := by
  have e : a * a = ((a.natAbs * a.natAbs : Nat) : Int) := (Int.natAbs_mul_self (a := a)).symm
  have h : a.natAbs ≤ 99 := by omega
  have h3 : a.natAbs * a.natAbs ≤ 99 * 99 := Nat.mul_le_mul h h
  rw [e]
  constructor <;> omega
theorem sq_I {x : Int32} (h1 : -99 ≤ x.toInt) (h2 : x.toInt ≤ 99) : (8 * x * x).toInt = 8 * (x.toInt * x.toInt) := by
  have hb := sq_9801 h1 h2
  have e8 : (8 : Int32).toInt = 8 := rfl
  have e1 : (8 * x).toInt = 8 * x.toInt := by
    rw [Int32.toInt_mul, e8, Int.bmod_eq_of_le] <;> omega
  have e2 : 8 * x.toInt * x.toInt = 8 * (x.toInt * x.toInt) := Int.mul_assoc _ _ _
  rw [Int32.toInt_mul, e1, e2, Int.bmod_eq_of_le] <;> omega
theorem sq_le {x y : Int32} (hx1 : -99 ≤ x.toInt) (hx2 : x.toInt ≤ 99) (hy1 : -99 ≤ y.toInt) (hy2 : y.toInt ≤ 99) : 8 * x * x ≤ 8 * y * y ↔ abI x ≤ abI y := by
  rw [Int32.le_iff_toInt_le, Int32.le_iff_toInt_le, sq_I hx1 hx2, sq_I hy1 hy2, ab_I (by omega) (by omega), ab_I (by omega) (by omega)]
  have ex : x.toInt * x.toInt = ((x.toInt.natAbs * x.toInt.natAbs : Nat) : Int) := (Int.natAbs_mul_self (a := x.toInt)).symm
  have ey : y.toInt * y.toInt = ((y.toInt.natAbs * y.toInt.natAbs : Nat) : Int) := (Int.natAbs_mul_self (a := y.toInt)).symm
  have hN : x.toInt.natAbs * x.toInt.natAbs ≤ y.toInt.natAbs * y.toInt.natAbs ↔ x.toInt.natAbs ≤ y.toInt.natAbs := Nat.mul_self_le_mul_self_iff
  rw [ex, ey]
  constructor
  · intro h
    have h3 : x.toInt.natAbs ≤ y.toInt.natAbs := hN.mp (by omega)
    split <;> split <;> omega
  · intro h
    have h3 : x.toInt.natAbs ≤ y.toInt.natAbs := by
      split at h <;> split at h <;> omega
    have h4 := hN.mpr h3
    omega

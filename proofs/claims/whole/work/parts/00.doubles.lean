/-! doubles: no NaN where none can be -/
theorem fp_n64 {r : UInt64} (h : FP.Core.val64 r ≠ .nan) : vf_n64 r := by
  have h1 := (FP.Core.ne_nan r).mp h
  unfold vf_n64
  rw [UInt64.le_iff_toNat_le, UInt64.toNat_and]
  have e1 : (0x7fffffffffffffff : UInt64).toNat = 2 ^ 63 - 1 := by decide +kernel
  have e2 : (0x7ff0000000000000 : UInt64).toNat = 9218868437227405312 := by decide +kernel
  rw [e1, e2, Nat.and_two_pow_sub_one_eq_mod]
  exact h1
theorem fp_i0 {b : Int32} (h : ¬ b = 0) : b.toInt ≠ 0 := fun e => h (Int32.toInt_inj.mp e)
theorem fp_nnd : ∀ a b : Int32, ¬ b = 0 → vf_n64 (FP.ddiv (FP.i2d a) (FP.i2d b)) := fun a b hb => fp_n64 (by
  have ha : FP.Core.dIsNaN (FP.i2d a) = false := by
    rw [FP.Core.notNaN_iff, FP.Core.ne_nan]
    have h : (FP.i2d a).toNat % 2 ^ 63 < 1056 * 2 ^ 52 := FP.Core.i2d_mag a
    omega
  have hz : ¬ FP.Core.DZero (FP.i2d b) := by
    rw [FP.Core.zero_bits2]
    have h : 1023 * 2 ^ 52 ≤ (FP.i2d b).toNat % 2 ^ 63 ∧ (FP.i2d b).toNat % 2 ^ 63 < 2047 * 2 ^ 52 := FP.Core.i2d_big (v := b) (fp_i0 hb)
    omega
  exact (FP.Core.notNaN_iff _).mp (FP.Core.ddiv_out ha (FP.Core.i2d_fin b) hz))
theorem fp_tails : FP.Core.b64.tails = 4503599627370496 := by decide +kernel
theorem fp_exps : FP.Core.b64.exps = 2048 := by decide +kernel
theorem fp_qmax : FP.Core.b64.qmax = 971 := by decide +kernel
theorem fp_p : 2 ^ FP.Core.b64.p = 9007199254740992 := by decide +kernel
/-- a whole number as a double, in the format's least units -/
theorem fp_iu {a : Int32} (ha : 0 < a.toInt) : ∃ (c : Nat) (q : Int), FP.Core.val64 (FP.i2d a) = .fin false c q ∧ FP.Core.fits FP.Core.b64 (.fin false c q) ∧ FP.Core.inUnits c q FP.Core.b64.qmin = a.toInt.toNat * 2 ^ (-FP.Core.b64.qmin).toNat := by
  have hw : FP.Core.Whole a.toInt (FP.Core.val64 (FP.i2d a)) := FP.Core.i2d_int a
  have hf := FP.Core.val64_fits (FP.i2d a)
  rcases hv : FP.Core.val64 (FP.i2d a) with _ | s | ⟨s, c, q⟩
  · rw [hv] at hw; exact hw.elim
  · rw [hv] at hw; exact hw.elim
  · rw [hv] at hw hf
    have hs0 : s = false := by rw [FP.Core.whole_sign hw (by omega)]; exact decide_eq_false (by omega)
    subst hs0
    refine ⟨c, q, rfl, hf, ?_⟩
    have h1 := FP.Core.whole_units hw (e := FP.Core.b64.qmin) hf.2.1
    have hq : FP.Core.b64.qmin.toNat = 0 := by rw [FP.Core.qmin_b64]; rfl
    rw [hq, Nat.pow_zero] at h1
    have h2 : ((FP.Core.inUnits c q FP.Core.b64.qmin : Nat) : Int) * ((1 : Nat) : Int) = a.toInt * ((2 ^ (-FP.Core.b64.qmin).toNat : Nat) : Int) := h1
    generalize 2 ^ (-FP.Core.b64.qmin).toNat = P at h2 ⊢
    apply Int.ofNat_inj.mp
    rw [Int.natCast_mul, Int.toNat_of_nonneg (by omega), ← h2]
    exact (Int.mul_one _).symm
theorem fp_hP (K : Nat) (h : 1 ≤ K) (h2 : K ≤ 1023) : FP.Core.b64.tails * 2 ^ (K - 1) * 2 ^ (1023 - K) = 2 ^ (-FP.Core.b64.qmin).toNat := by
  rw [FP.Core.tails_b64, FP.Core.qmin_b64, ← Nat.pow_add, ← Nat.pow_add]
  exact congrArg (fun k : Nat => 2 ^ k) (show 52 + (K - 1) + (1023 - K) = (-(-1074 : Int)).toNat by omega)
/-- a share's bits -/
theorem fp_share {a b : Int32} (ha : 0 < a.toInt) (hab : a.toInt ≤ b.toInt) (hba : b.toInt ≤ 8 * a.toInt) : ∃ E T : Nat, 1020 ≤ E ∧ E ≤ 1023 ∧ T < 4503599627370496 ∧ (FP.ddiv (FP.i2d a) (FP.i2d b)).toNat = E * 4503599627370496 + T := by
  obtain ⟨c, q, va, fa, ua⟩ := fp_iu ha
  obtain ⟨d, r, vb, fb, ub⟩ := fp_iu (a := b) (by omega)
  have hd : ¬ d = 0 := fun e => by
    subst e
    have h0 : FP.Core.inUnits 0 r FP.Core.b64.qmin = 0 := Nat.zero_mul _
    rw [h0] at ub
    have hp := Nat.two_pow_pos (-FP.Core.b64.qmin).toNat
    have := Nat.mul_pos (show 0 < b.toInt.toNat by omega) hp
    omega
  have hx : FP.Core.val64 (FP.ddiv (FP.i2d a) (FP.i2d b)) = FP.Core.roundRatio FP.Core.b64 false c d (q - r) := by
    rw [FP.Core.val64_ddiv, va, vb]
    show (if d = 0 then (if c = 0 then FP.Core.Datum.nan else .inf (false != false)) else FP.Core.roundRatio FP.Core.b64 (false != false) c d (q - r)) = _
    rw [if_neg hd]; rfl
  generalize FP.ddiv (FP.i2d a) (FP.i2d b) = x at hx
  have hn : FP.Core.decode FP.Core.b64 x.toNat = FP.Core.roundRatio FP.Core.b64 false c d (q - r) := hx
  have q1 := fa.2.1
  have r1 := fb.2.1
  have hqm := FP.Core.qmin_neg FP.Core.good_b64
  have e1 : FP.Core.inUnits c (q - r) (2 * FP.Core.b64.qmin - r) = FP.Core.inUnits c q FP.Core.b64.qmin * 2 ^ (-FP.Core.b64.qmin).toNat := by
    show c * 2 ^ (q - r - (2 * FP.Core.b64.qmin - r)).toNat = c * 2 ^ (q - FP.Core.b64.qmin).toNat * 2 ^ (-FP.Core.b64.qmin).toNat
    rw [Nat.mul_assoc, ← Nat.pow_add]
    exact congrArg (fun k : Nat => c * 2 ^ k) (by omega)
  have e2 : 2 ^ (FP.Core.b64.qmin - (2 * FP.Core.b64.qmin - r)).toNat * d = FP.Core.inUnits d r FP.Core.b64.qmin := by
    show _ = d * 2 ^ (r - FP.Core.b64.qmin).toNat
    rw [Nat.mul_comm]
    exact congrArg (fun k : Nat => d * 2 ^ k) (by omega)
  have hA : a.toInt.toNat ≤ b.toInt.toNat := by omega
  have hB : b.toInt.toNat ≤ 8 * a.toInt.toNat := by omega
  have up : FP.Core.mag FP.Core.b64 x.toNat ≤ 1023 * FP.Core.b64.tails := by
    refine FP.Core.mag_le FP.Core.good_b64 hn (by omega) (e0 := 2 * FP.Core.b64.qmin - r) (by omega) (by omega) ?_
    have hP := fp_hP 1023 (by decide) (by decide)
    rw [FP.Core.unitsOf_start (by decide), e1, Nat.mul_assoc, e2, ua, ub]
    rw [show 1023 - 1023 = 0 from rfl, Nat.pow_zero, Nat.mul_one] at hP
    rw [hP]
    generalize 2 ^ (-FP.Core.b64.qmin).toNat = P
    rw [Nat.mul_comm (a.toInt.toNat * P) P]
    exact Nat.mul_le_mul_left P (Nat.mul_le_mul_right P hA)
  have lo : 1020 * FP.Core.b64.tails ≤ FP.Core.mag FP.Core.b64 x.toNat := by
    refine FP.Core.mag_ge FP.Core.good_b64 hn (by omega) (e0 := 2 * FP.Core.b64.qmin - r) (by omega) (by omega) (by rw [FP.Core.infBits_b64, fp_tails]; decide) ?_
    have hP := fp_hP 1020 (by decide) (by decide)
    rw [FP.Core.unitsOf_start (by decide), e1, Nat.mul_assoc, e2, ua, ub]
    rw [show 2 ^ (1023 - 1020) = 8 from rfl] at hP
    rw [← hP]
    generalize FP.Core.b64.tails * 2 ^ (1020 - 1) = S
    generalize a.toInt.toNat = A at hB
    generalize b.toInt.toNat = B at hB
    have h3 : S * (B * (S * 8)) ≤ S * (8 * A * (S * 8)) := Nat.mul_le_mul_left _ (Nat.mul_le_mul_right _ hB)
    have h4 : S * (8 * A * (S * 8)) = A * (S * 8) * (S * 8) := by ac_rfl
    rw [h4] at h3
    exact h3
  have hne : FP.Core.val64 x ≠ .nan := by rw [hx]; exact FP.Core.roundRatio_ne_nan _ _ _ _ _
  have hs := FP.Core.sgn_bits hne
  rw [hx, FP.Core.sgn_roundRatio] at hs
  have hs2 : ¬ 2 ^ 63 ≤ x.toNat := of_decide_eq_false hs.symm
  rw [FP.Core.mag_toNat64, fp_tails] at up lo
  exact ⟨x.toNat / 4503599627370496, x.toNat % 4503599627370496, by omega, by omega, by omega, by omega⟩
/-- a normal double, read -/
theorem fp_val {x : UInt64} {E T : Nat} (h : x.toNat = E * 4503599627370496 + T) (h1 : 1 ≤ E) (h2 : E ≤ 2046) (hT : T < 4503599627370496) : FP.Core.val64 x = .fin false (4503599627370496 + T) ((E : Int) - 1075) := by
  have fE : FP.Core.fieldE FP.Core.b64 x.toNat = E := by unfold FP.Core.fieldE; rw [fp_tails, fp_exps, h]; omega
  have fT : FP.Core.fieldT FP.Core.b64 x.toNat = T := by unfold FP.Core.fieldT; rw [fp_tails, h]; omega
  have fS : FP.Core.fieldS FP.Core.b64 x.toNat = false := by
    unfold FP.Core.fieldS
    rw [fp_tails, fp_exps, h]
    have e : (E * 4503599627370496 + T) / 4503599627370496 / 2048 % 2 = 0 := by omega
    rw [e]; rfl
  unfold FP.Core.val64 FP.Core.decode
  rw [fE, fT, fS, FP.Core.exps_b64, if_neg (by omega), if_neg (by omega), fp_tails, FP.Core.qmin_b64]
  rw [show (-1074 : Int) + ((E : Int) - 1) = (E : Int) - 1075 by omega]
theorem fp_mul {x y : UInt64} {c : Nat} {q k : Int} (hx : FP.Core.val64 x = .fin false c q) (hy : FP.Core.val64 y = .fin false 4503599627370496 k) (c1 : 4503599627370496 ≤ c) (c2 : c < 9007199254740992) (h1 : -1074 ≤ q + k + 52) (h2 : q + k + 52 ≤ 971) : FP.Core.val64 (FP.dmul x y) = .fin false c (q + k + 52) := by
  rw [FP.Core.val64_dmul, hx, hy]
  show FP.Core.roundRatio FP.Core.b64 (false != false) (c * 4503599627370496) 1 (q + k) = _
  refine FP.Core.roundRatio_exact FP.Core.good_b64 (by decide) ⟨by rw [fp_p]; exact c2, by rw [FP.Core.qmin_b64]; exact h1, by rw [fp_qmax]; exact h2, Or.inr (by rw [fp_tails]; exact c1)⟩ ?_
  rw [show (q + k - (q + k + 52)).toNat = 0 by omega, show (q + k + 52 - (q + k)).toNat = 52 by omega, Nat.pow_zero, Nat.mul_one, Nat.mul_one]
theorem fp_two : FP.Core.val64 4611686018427387904 = .fin false 4503599627370496 (-51) := by decide +kernel
theorem fp_big : FP.Core.val64 4841369599423283200 = .fin false 4503599627370496 0 := by decide +kernel
theorem fp_cmp {x : UInt64} {c : Nat} {q : Int} (hx : FP.Core.val64 x = .fin false c q) : FP.dcmp x FP.dconst1 = some (compare ((c * 2 ^ (q - min q (-52)).toNat : Nat) : Int) ((2 ^ 52 * 2 ^ (-52 - min q (-52)).toNat : Nat) : Int)) := by
  have e : FP.dcmp x FP.dconst1 = FP.Core.order (FP.Core.val64 x) (FP.Core.val64 FP.Core.dconst1) := rfl
  rw [e, hx, FP.Core.val64_dconst1]; rfl
theorem fp_clt {a b : Int} (h : a < b) : compare a b = .lt := by
  show compareOfLessAndEq a b = .lt
  unfold compareOfLessAndEq
  rw [if_pos h]
theorem fp_cge {a b : Int} (h : b ≤ a) : compare a b = .eq ∨ compare a b = .gt := by
  show compareOfLessAndEq a b = .eq ∨ compareOfLessAndEq a b = .gt
  unfold compareOfLessAndEq
  rw [if_neg (by omega)]
  split
  · exact Or.inl rfl
  · exact Or.inr rfl
theorem fp_cgt {a b : Int} (h : b < a) : compare a b = .gt := by
  show compareOfLessAndEq a b = .gt
  unfold compareOfLessAndEq
  rw [if_neg (by omega), if_neg (by omega)]
theorem fp_lt {x : UInt64} {c j : Nat} (hx : FP.Core.val64 x = .fin false c (-52 - (j : Int))) (hj : 1 ≤ j) (c2 : c < 9007199254740992) : ¬ 0 ≤ Op.cmpValue (FP.dcmp x FP.dconst1) .g := by
  rw [fp_cmp hx, fp_clt]
  · decide
  · rw [Int.min_eq_left (by omega), show (-52 - (j : Int) - (-52 - (j : Int))).toNat = 0 by omega, show (-52 - (-52 - (j : Int))).toNat = j by omega, Nat.pow_zero, Nat.mul_one]
    have h : 2 ^ 1 ≤ 2 ^ j := Nat.pow_le_pow_right (by decide) hj
    have h2 : 2 ^ 52 * 2 ^ 1 ≤ 2 ^ 52 * 2 ^ j := Nat.mul_le_mul_left _ h
    apply Int.ofNat_lt.mpr
    exact Nat.lt_of_lt_of_le (show c < 2 ^ 52 * 2 ^ 1 from c2) h2
theorem fp_ge {x : UInt64} {c : Nat} (hx : FP.Core.val64 x = .fin false c (-52)) (c1 : 4503599627370496 ≤ c) : 0 ≤ Op.cmpValue (FP.dcmp x FP.dconst1) .g := by
  rw [fp_cmp hx]
  have h : ((2 ^ 52 * 2 ^ (-52 - min (-52 : Int) (-52)).toNat : Nat) : Int) ≤ ((c * 2 ^ (-52 - min (-52 : Int) (-52)).toNat : Nat) : Int) := by
    rw [show (-52 - min (-52 : Int) (-52)).toNat = 0 from rfl, Nat.pow_zero, Nat.mul_one, Nat.mul_one]
    exact Int.ofNat_le.mpr c1
  rcases fp_cge h with e | e <;> (rw [e]; decide)
theorem fp_pos {x : UInt64} {c : Nat} {q : Int} (hx : FP.Core.val64 x = .fin false c q) (hc : 0 < c) : 0 < Op.cmpValue (FP.dcmp x FP.dconst0) .g := by
  have e : FP.dcmp x FP.dconst0 = FP.Core.order (FP.Core.val64 x) (FP.Core.val64 FP.Core.dconst0) := rfl
  rw [e, hx, FP.Core.val64_dconst0]
  show 0 < Op.cmpValue (some (compare ((c * 2 ^ (q - min q FP.Core.b64.qmin).toNat : Nat) : Int) ((0 * 2 ^ (FP.Core.b64.qmin - min q FP.Core.b64.qmin).toNat : Nat) : Int))) .g
  rw [fp_cgt]
  · decide
  · rw [Nat.zero_mul]
    exact Int.ofNat_lt.mpr (Nat.mul_pos hc (Nat.two_pow_pos _))
theorem fp_sz : Int64.size = 18446744073709551616 := rfl
theorem fp_d2l {y : UInt64} {c : Nat} (hy : FP.Core.val64 y = .fin false c 0) (c2 : c < 9007199254740992) : FP.d2l y = Int64.ofInt (c : Int) := by
  have ht : (Int64.ofInt (c : Int)).toInt = (c : Int) := by rw [Int64.toInt_ofInt, fp_sz, Int.bmod_eq_of_le] <;> omega
  refine FP.Core.d2l_int ?_
  show FP.Core.Whole (Int64.ofInt (c : Int)).toInt (FP.Core.val64 y)
  rw [hy, ht]
  show ((c * 2 ^ (0 : Int).toNat : Nat) : Int) = (c : Int) * ((2 ^ (-0 : Int).toNat : Nat) : Int)
  rw [show (0 : Int).toNat = 0 from rfl, show (-0 : Int).toNat = 0 from rfl, Nat.pow_zero, Nat.mul_one]
  exact (Int.mul_one _).symm
theorem fp_sum {L : Int64} {E T : Nat} {x : UInt64} (hL : L.toInt = ((E * 4503599627370496 : Nat) : Int)) (hE : E ≤ 1023) (hT : T < 4503599627370496) (hx : x.toNat = E * 4503599627370496 + T) : L + (Int64.ofInt ((4503599627370496 + T : Nat) : Int) - 4503599627370496) = x.toInt64 := by
  apply Int64.toInt_inj.mp
  have hr : x.toInt64.toInt = (x.toNat : Int) := by
    show x.toBitVec.toInt = (x.toBitVec.toNat : Int)
    refine BitVec.toInt_eq_toNat_of_lt ?_
    have : x.toBitVec.toNat = x.toNat := rfl
    omega
  have h1 : (Int64.ofInt ((4503599627370496 + T : Nat) : Int)).toInt = ((4503599627370496 + T : Nat) : Int) := by rw [Int64.toInt_ofInt, fp_sz, Int.bmod_eq_of_le] <;> omega
  have h2 : (4503599627370496 : Int64).toInt = 4503599627370496 := by decide +kernel
  have h3 : (Int64.ofInt ((4503599627370496 + T : Nat) : Int) - 4503599627370496).toInt = (T : Int) := by
    rw [Int64.toInt_sub, h1, h2, Int.bmod_eq_of_le] <;> omega
  rw [hr, Int64.toInt_add, hL, h3, hx, Int.bmod_eq_of_le] <;> omega

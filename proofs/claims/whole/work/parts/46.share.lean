/-! the bits of a share, told by doubling -/
theorem fp_NND : NND := fp_nnd
theorem fp_dbl {x : UInt64} {c : Nat} {q : Int} (hx : FP.Core.val64 x = .fin false c q) (c1 : 4503599627370496 ≤ c) (c2 : c < 9007199254740992) (h1 : -1074 ≤ q) (h2 : q ≤ 0) : ∀ n : Nat, n ≤ 9 → FP.Core.val64 (dblS x n) = .fin false c (q + (n : Int))
  | 0, _ => by
    show FP.Core.val64 x = _
    rw [hx, show q + ((0 : Nat) : Int) = q by omega]
  | n + 1, hn => by
    show FP.Core.val64 (FP.dmul (dblS x n) 4611686018427387904) = _
    have h := fp_mul (fp_dbl hx c1 c2 h1 h2 n (by omega)) fp_two c1 c2 (by omega) (by omega)
    rw [h, show q + (n : Int) + -51 + 52 = q + ((n + 1 : Nat) : Int) by omega]
theorem ex_0 : exS 0 <<< (Int32.toInt64 52 &&& 63) = 4607182418800017408 := by decide +kernel
theorem ex_1 : exS 1 <<< (Int32.toInt64 52 &&& 63) = 4602678819172646912 := by decide +kernel
theorem ex_2 : exS 2 <<< (Int32.toInt64 52 &&& 63) = 4598175219545276416 := by decide +kernel
theorem ex_3 : exS 3 <<< (Int32.toInt64 52 &&& 63) = 4593671619917905920 := by decide +kernel
theorem ex_sh {n : Nat} (h : n ≤ 3) : (exS n <<< (Int32.toInt64 52 &&& 63)).toInt = (((1023 - n) * 4503599627370496 : Nat) : Int) := by
  rcases (show n = 0 ∨ n = 1 ∨ n = 2 ∨ n = 3 by omega) with e | e | e | e <;> subst e
  · rw [ex_0]; decide +kernel
  · rw [ex_1]; decide +kernel
  · rw [ex_2]; decide +kernel
  · rw [ex_3]; decide +kernel
/-- how often a share is doubled -/
theorem bs_n {x : UInt64} {c N : Nat} (hN : N ≤ 3) (hx : FP.Core.val64 x = .fin false c (-52 - (N : Int))) (c1 : 4503599627370496 ≤ c) (c2 : c < 9007199254740992) : ∀ k n : Nat, k + n = N → bsN x (8 - n) n = N
  | 0, n, e => by
    have h := fp_dbl hx c1 c2 (by omega) (by omega) n (by omega)
    rw [bs_t (by omega) (fp_ge (by rw [h, show -52 - (N : Int) + (n : Int) = -52 by omega]) c1)]
    omega
  | k + 1, n, e => by
    have h := fp_dbl hx c1 c2 (by omega) (by omega) n (by omega)
    rw [bs_f (by omega) (fp_lt (j := N - n) (by rw [h, show -52 - (N : Int) + (n : Int) = -52 - ((N - n : Nat) : Int) by omega]) (by omega) c2)]
    exact bs_n hN hx c1 c2 k (n + 1) (by omega)
/-- the bits of a share are right, and no step of them is NaN -/
theorem bs_ok {x : UInt64} {E T : Nat} (h1 : 1020 ≤ E) (h2 : E ≤ 1023) (hT : T < 4503599627370496) (hx : x.toNat = E * 4503599627370496 + T) : bsF x = x.toInt64 ∧ nnI x = 0 ∧ NNB x := by
  have hv := fp_val hx (by omega) (by omega) hT
  have hv2 : FP.Core.val64 x = .fin false (4503599627370496 + T) (-52 - ((1023 - E : Nat) : Int)) := by
    rw [hv, show (E : Int) - 1075 = -52 - ((1023 - E : Nat) : Int) by omega]
  have hne : FP.Core.val64 x ≠ .nan := by rw [hv]; intro e; cases e
  refine ⟨?_, ?_, fun n hn => ?_⟩
  · unfold bsF
    rw [if_pos (fp_pos hv (by omega)), bs_n (by omega) hv2 (by omega) (by omega) (1023 - E) 0 (by omega)]
    unfold bsV
    have hd := fp_dbl hv2 (by omega) (by omega) (by omega) (by omega) (1023 - E) (by omega)
    have hm := fp_mul hd fp_big (by omega) (by omega) (by omega) (by omega)
    rw [fp_d2l (c := 4503599627370496 + T) (by rw [hm, show -52 - ((1023 - E : Nat) : Int) + ((1023 - E : Nat) : Int) + 0 + 52 = 0 by omega]) (by omega)]
    have hs := ex_sh (n := 1023 - E) (by omega)
    rw [show 1023 - (1023 - E) = E by omega] at hs
    exact fp_sum hs h2 hT hx
  · unfold nnI
    have e : FP.dcmp x x = some .eq := FP.Core.dcmp_self hne
    rw [e]; rfl
  · have hd := fp_dbl hv2 (by omega) (by omega) (by omega) (by omega) n (by omega)
    refine ⟨fp_n64 ?_, fp_n64 ?_⟩
    · rw [fp_mul hd fp_two (by omega) (by omega) (by omega) (by omega)]; intro e; cases e
    · rw [fp_mul hd fp_big (by omega) (by omega) (by omega) (by omega)]; intro e; cases e
theorem dbl_0 : ∀ n, dblS FP.dconst0 n = FP.dconst0
  | 0 => rfl
  | n + 1 => by
    show FP.dmul (dblS FP.dconst0 n) 4611686018427387904 = FP.dconst0
    rw [dbl_0 n]; decide +kernel
theorem bs_0 : bsF FP.dconst0 = FP.dconst0.toInt64 ∧ nnI FP.dconst0 = 0 ∧ NNB FP.dconst0 := by
  refine ⟨by decide +kernel, by decide +kernel, fun n _ => ?_⟩
  rw [dbl_0 n]
  exact ⟨by unfold vf_n64; decide +kernel, by unfold vf_n64; decide +kernel⟩
/-- the greatest square and the sum of squares -/
theorem mx_sq {d : Nat → Int32} (hb : BdA d) : ∀ i : Nat, i ≤ 8 → 0 ≤ (mxS d i).toInt ∧ (mxS d i).toInt ≤ (sqS d i).toInt ∧ (sqS d i).toInt ≤ (i : Int) * (mxS d i).toInt ∧ (sqS d i).toInt ≤ 9801 * (i : Int)
  | 0, _ => by
    have e1 : (mxS d 0).toInt = 0 := rfl
    have e2 : (sqS d 0).toInt = 0 := rfl
    rw [e1, e2]; omega
  | i + 1, hi => by
    obtain ⟨a, b, c, e⟩ := mx_sq hb i (by omega)
    have hd := hb i (by omega)
    have hq := sq_9801 hd.1 hd.2
    have es : (d i * d i).toInt = (d i).toInt * (d i).toInt := by rw [Int32.toInt_mul, Int.bmod_eq_of_le] <;> omega
    have eq : (sqS d (i + 1)).toInt = (sqS d i).toInt + (d i).toInt * (d i).toInt := by
      show (sqS d i + d i * d i).toInt = _
      rw [Int32.toInt_add, es, Int.bmod_eq_of_le] <;> omega
    have em : (mxS d (i + 1)).toInt = if (mxS d i).toInt < (d i).toInt * (d i).toInt then (d i).toInt * (d i).toInt else (mxS d i).toInt := by
      show (if mxS d i < d i * d i then d i * d i else mxS d i).toInt = _
      by_cases h : mxS d i < d i * d i
      · have h' := Int32.lt_iff_toInt_lt.mp h
        rw [es] at h'
        rw [if_pos h, if_pos h', es]
      · have h' : ¬ (mxS d i).toInt < (d i * d i).toInt := fun g => h (Int32.lt_iff_toInt_lt.mpr g)
        rw [es] at h'
        rw [if_neg h, if_neg h']
    rw [eq, em]
    generalize (d i).toInt * (d i).toInt = s at hq ⊢
    generalize (mxS d i).toInt = M at a b c ⊢
    generalize (sqS d i).toInt = S at b c e ⊢
    have hc : ∀ M' : Int, ((i + 1 : Nat) : Int) * M' = (i : Int) * M' + M' := fun M' => by
      rw [Int.natCast_add, Int.add_mul]
      show _ + (1 : Int) * M' = _
      rw [Int.one_mul]
    have hm : M ≤ (if M < s then s else M) ∧ s ≤ (if M < s then s else M) ∧ (if M < s then s else M) ≤ M + s := by split <;> omega
    generalize (if M < s then s else M) = M' at hm ⊢
    have h3 : (i : Int) * M ≤ (i : Int) * M' := Int.mul_le_mul_of_nonneg_left hm.1 (by omega)
    rw [hc]
    refine ⟨by omega, by omega, by omega, by omega⟩
theorem ms_ok {d : Nat → Int32} (hb : BdA d) : bsF (msF d) = (msF d).toInt64 ∧ nnI (msF d) = 0 ∧ NNB (msF d) := by
  unfold msF
  by_cases c : sqS d 8 = 0
  · rw [if_pos c]; exact bs_0
  · rw [if_neg c]
    obtain ⟨a, b, h3, h4⟩ := mx_sq hb 8 (Nat.le_refl 8)
    have hz : (sqS d 8).toInt ≠ 0 := fp_i0 c
    obtain ⟨E, T, e1, e2, e3, e4⟩ := fp_share (a := mxS d 8) (b := sqS d 8) (by omega) b (by omega)
    exact bs_ok e1 e2 e3 e4

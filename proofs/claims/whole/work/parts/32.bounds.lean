/-! bounds of the traces; the counts are the same, told both ways -/
def BdA (d : Nat → Int32) : Prop := ∀ k, k < 8 → -99 ≤ (d k).toInt ∧ (d k).toInt ≤ 99
theorem wv_pm (k n : Nat) : wv k n = 1 ∨ wv k n = -1 := by
  unfold wv
  split
  · exact Or.inl rfl
  · exact Or.inr rfl
theorem mul_pm {x y : Int32} (hy : y = 1 ∨ y = -1) (h1 : -99 ≤ x.toInt) (h2 : x.toInt ≤ 99) : -99 ≤ (x * y).toInt ∧ (x * y).toInt ≤ 99 := by
  rw [Int32.toInt_mul]
  rcases hy with rfl | rfl
  · have e : (1 : Int32).toInt = 1 := rfl
    rw [e, Int.bmod_eq_of_le] <;> omega
  · have e : (-1 : Int32).toInt = -1 := rfl
    rw [e, Int.bmod_eq_of_le] <;> omega
theorem tr_bd {d : Nat → Int32} (h : BdA d) (n : Nat) : ∀ i : Nat, i ≤ 8 → -(99 * (i : Int)) ≤ (trS d n i).toInt ∧ (trS d n i).toInt ≤ 99 * (i : Int)
  | 0, _ => by
    have e : (trS d n 0).toInt = 0 := rfl
    rw [e]; omega
  | i + 1, hi => by
    have h1 := tr_bd h n i (by omega)
    have h2 := mul_pm (wv_pm i n) (h i (by omega)).1 (h i (by omega)).2
    have e : (trS d n (i + 1)).toInt = (trS d n i + d i * wv i n).toInt := rfl
    rw [e, Int32.toInt_add, Int.bmod_eq_of_le] <;> omega
theorem tr_792 {d : Nat → Int32} (h : BdA d) (n : Nat) : -792 ≤ (trS d n 8).toInt ∧ (trS d n 8).toInt ≤ 792 := by
  have h1 := tr_bd h n 8 (Nat.le_refl 8)
  omega
theorem gt_792 {d : Nat → Int32} (h : BdA d) : ∀ i, -792 ≤ (gtS d i).toInt ∧ (gtS d i).toInt ≤ 792
  | 0 => tr_792 h 0
  | i + 1 => by
    unfold gtS
    split
    · exact tr_792 h _
    · exact gt_792 h i
theorem lt_792 {d : Nat → Int32} (h : BdA d) : ∀ i, -792 ≤ (ltS d i).toInt ∧ (ltS d i).toInt ≤ 792
  | 0 => tr_792 h 0
  | i + 1 => by
    unfold ltS
    split
    · exact tr_792 h _
    · exact lt_792 h i
theorem lt_gt {d : Nat → Int32} : ∀ i, (ltS d i).toInt ≤ (trS d 0 8).toInt ∧ (trS d 0 8).toInt ≤ (gtS d i).toInt
  | 0 => ⟨Int.le_refl _, Int.le_refl _⟩
  | i + 1 => by
    have h := lt_gt (d := d) i
    constructor
    · unfold ltS
      split
      · rename_i c; have := Int32.lt_iff_toInt_lt.mp c; omega
      · exact h.1
    · unfold gtS
      split
      · rename_i c; have := Int32.lt_iff_toInt_lt.mp c; omega
      · exact h.2
theorem neg_I {x : Int32} (h1 : -99999 ≤ x.toInt) (h2 : x.toInt ≤ 99999) : (-x).toInt = -x.toInt := by
  rw [Int32.toInt_neg, Int.bmod_eq_of_le] <;> omega
theorem ab_I {x : Int32} (h1 : -99999 ≤ x.toInt) (h2 : x.toInt ≤ 99999) : (abI x).toInt = if 0 ≤ x.toInt then x.toInt else -x.toInt := by
  have e : (0 : Int32).toInt = 0 := rfl
  unfold abI
  by_cases c : (0 : Int32) ≤ x
  · have := Int32.le_iff_toInt_le.mp c
    rw [if_pos c, if_pos (by omega)]
  · have c2 : ¬ 0 ≤ x.toInt := fun h => c (Int32.le_iff_toInt_le.mpr (by omega))
    rw [if_neg c, if_neg c2, Int32.zero_sub, neg_I h1 h2]
theorem rl_ov0 {g l : Int32} (g1 : -792 ≤ g.toInt) (g2 : g.toInt ≤ 792) (l1 : -792 ≤ l.toInt) (l2 : l.toInt ≤ 792) (h : l.toInt ≤ g.toInt) : (if g < -l then -l else g) = if abI g ≤ abI l then abI l else abI g := by
  apply Int32.toInt_inj.mp
  have hg := ab_I (x := g) (by omega) (by omega)
  have hl := ab_I (x := l) (by omega) (by omega)
  have hn := neg_I (x := l) (by omega) (by omega)
  by_cases c : g < -l <;> by_cases c2 : abI g ≤ abI l
  all_goals
    have c' := c
    have c2' := c2
    rw [Int32.lt_iff_toInt_lt, hn] at c'
    rw [Int32.le_iff_toInt_le, hg, hl] at c2'
  · rw [if_pos c, if_pos c2, hl, hn]; split at c2' <;> split at c2' <;> omega
  · rw [if_pos c, if_neg c2, hg, hn]; split at c2' <;> split at c2' <;> omega
  · rw [if_neg c, if_pos c2, hl]; split at c2' <;> split at c2' <;> omega
  · rw [if_neg c, if_neg c2, hg]; split at c2' <;> split at c2' <;> omega
theorem rl_ov {d : Nat → Int32} (h : BdA d) : ovF d = ovM d := by
  have a := gt_792 h 7
  have b := lt_792 h 7
  have c := lt_gt (d := d) 7
  unfold ovF ovM
  rw [rl_ov0 a.1 a.2 b.1 b.2 (by omega)]
theorem bc_lo0 : ∀ m, m < 256 → bcF (nI m) = 0 + lbI m 0 + lbI m 1 + lbI m 2 + lbI m 3 + lbI m 4 + lbI m 5 + lbI m 6 + lbI m 7 := by decide +kernel
theorem rl_bc {m : Nat} {z : Nat → Int32} (h : RlW m z) : bcF (nI m) = loS z 8 := by
  rw [bc_lo0 m h.1]
  show _ = 0 + z (8 + 0) + z (8 + 1) + z (8 + 2) + z (8 + 3) + z (8 + 4) + z (8 + 5) + z (8 + 6) + z (8 + 7)
  rw [h.2 0 (by decide), h.2 1 (by decide), h.2 2 (by decide), h.2 3 (by decide), h.2 4 (by decide), h.2 5 (by decide), h.2 6 (by decide), h.2 7 (by decide)]

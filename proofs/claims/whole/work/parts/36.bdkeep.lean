/-! every writer keeps the bounds of the amplitudes -/
section
variable {z : Nat → Int32}
theorem out_bd {x : Int32} (h : outI x (-99) 99 = 0) : -99 ≤ x.toInt ∧ x.toInt ≤ 99 := by
  unfold outI at h
  split at h
  · cases h
  · split at h
    · cases h
    · rename_i h1 h2
      have a1 := Int32.le_iff_toInt_le.mp (Int32.not_lt.mp h1)
      have a2 := Int32.le_iff_toInt_le.mp (Int32.not_lt.mp h2)
      have e1 : (-99 : Int32).toInt = -99 := rfl
      have e2 : (99 : Int32).toInt = 99 := rfl
      omega
theorem bd_set (h : BdA z) {k : Nat} {x : Int32} (hx : outI x (-99) 99 = 0) : BdA (upd z k x) := fun j hj => by
  unfold upd
  split
  · exact out_bd hx
  · exact h j hj
theorem bd_up (h : BdA z) {k : Nat} {x : Int32} (hk : 8 ≤ k) : BdA (upd z k x) := fun j hj => by
  unfold upd
  rw [if_neg (by omega)]
  exact h j hj
theorem bd_tm (h : BdA z) (b : Nat) : BdA (tmF z b) := fun j hj => by
  unfold tmF
  rw [if_pos hj]
  exact mul_pm (wv_pm j b) (h j hj).1 (h j hj).2
theorem bd_dm (h : BdA z) (x : Int32) : BdA (dmF z x) := fun j hj => by
  unfold dmF
  rw [if_pos hj]
  split
  · exact h j hj
  · decide
theorem bd_cp (h : BdA z) : BdA (cpM z) := fun j hj => by
  unfold cpM
  rw [if_pos (by omega)]
  exact h j hj
theorem cl_bd (v : Int32) : -99 ≤ (clI v).toInt ∧ (clI v).toInt ≤ 99 := by
  have e1 : (-99 : Int32).toInt = -99 := rfl
  have e2 : (99 : Int32).toInt = 99 := rfl
  unfold clI
  by_cases c : v < 99
  · rw [if_pos c]
    have a := Int32.lt_iff_toInt_lt.mp c
    split
    · rename_i c2
      have b := Int32.lt_iff_toInt_lt.mp c2
      omega
    · omega
  · rw [if_neg c, if_pos (by decide)]
    omega
theorem bd_fm : BdA (fmM z) := fun j hj => by
  unfold fmM fiF
  rw [if_pos hj]
  exact cl_bd _
end

/-! the fewest, the class's first way -/
section
variable {z : Nat → Int32} {m : Nat}
theorem rl_fe0 (hr : RlW m z) (hb : BdA z) {x : Int32} (h1 : 0 ≤ x.toInt) (h2 : x.toInt ≤ 9999999) : feF (erF z m) x 0 = nI (fmF z x) := by
  have hs1 := si_1 hr hb
  unfold feF fmF
  rw [if_pos rfl, po_zc hs1 8 (Nat.le_refl 8)]
  by_cases c : zc (oM z) 8 ≤ 0
  · rw [if_pos c, fb_z hb hs1 (by omega)]
  · rw [if_neg c]
    exact fb_fm hb 8 _ _ _ _ hs1 rfl (by omega) (zc_le _ 8) h1 h2
end

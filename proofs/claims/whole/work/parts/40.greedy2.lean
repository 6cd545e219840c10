/-! how many are left, counted both ways -/
section
variable {z o f : Nat → Int32} {m : Nat}
theorem po_zc (h : SiW z o f) : ∀ i, i ≤ 8 → poS f i = nI (zc o i)
  | 0, _ => rfl
  | i + 1, hi => by
    show poS f i + (if f i ≤ 0 then 0 else 1) = nI (zc o i + (if o i = 0 then 1 else 0))
    rw [po_zc h i (by omega)]
    by_cases c : o i = 0
    · rw [if_neg ((h i (by omega)).1 c).2, if_pos c]
      exact nI_add (zc o i) 1
    · rw [(h i (by omega)).2 c, if_pos (by decide), if_neg c]
      exact nI_add (zc o i) 0
theorem sq_pos {x : Int32} (h1 : -99 ≤ x.toInt) (h2 : x.toInt ≤ 99) (hx : ¬ x = 0) : ¬ 8 * x * x ≤ 0 := fun h => by
  rw [Int32.le_iff_toInt_le, sq_I h1 h2] at h
  have e0 : (0 : Int32).toInt = 0 := rfl
  rw [e0] at h
  have hb := sq_9801 h1 h2
  have hz : x.toInt * x.toInt = 0 := by omega
  have hx0 : x.toInt = 0 := by rcases Int.mul_eq_zero.mp hz with e | e <;> exact e
  exact hx (Int32.toInt_inj.mp (by rw [hx0, e0]))
theorem si_0 (hr : RlW m z) (hb : BdA z) : SiW (us z) (oM z) (erF z m) := fun k hk => by
  have e : erF z m k = 8 * us z k * us z k := by unfold erF; rw [rl_us hr hk]
  have b := bd_us hb k hk
  unfold oM
  by_cases c : us z k = 0
  · rw [if_pos c]
    exact ⟨fun e => absurd e (by decide), fun _ => by rw [e, c]; rfl⟩
  · rw [if_neg c]
    exact ⟨fun _ => ⟨e, by rw [e]; exact sq_pos b.1 b.2 c⟩, fun e => absurd rfl e⟩
end

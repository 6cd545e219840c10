/-! the start of both ways, by the reference's own row -/
section
variable {z : Nat → Int32} {m : Nat}
theorem us_ne {k : Nat} (c : ¬ us z k = 0) : us z k = z k := by
  unfold us at c ⊢
  by_cases e : z (8 + k) = 1
  · rw [if_pos e] at c; exact absurd rfl c
  · rw [if_neg e]
theorem si_1 (hr : RlW m z) (hb : BdA z) : SiW z (oM z) (erF z m) := fun k hk => by
  have h := si_0 hr hb k hk
  refine ⟨fun e => ?_, h.2⟩
  have h1 := h.1 e
  have c : ¬ us z k = 0 := fun c => by
    unfold oM at e
    rw [if_pos c] at e
    exact absurd e (by decide)
  rw [us_ne c] at h1
  exact h1
end

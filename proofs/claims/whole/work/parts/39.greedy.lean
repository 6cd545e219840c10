/-! leaving out the least: the class's way and the reference's choose the same wheel -/
def SiW (z o f : Nat → Int32) : Prop := ∀ k, k < 8 → (o k = 0 → f k = 8 * z k * z k ∧ ¬ f k ≤ 0) ∧ (¬ o k = 0 → f k = 0)
section
variable {z o f : Nat → Int32}
theorem ml_li (hb : BdA z) (h : SiW z o f) : ∀ i, i ≤ 8 → mlS z o i = liS f i
  | 0, _ => rfl
  | i + 1, hi => by
    have ih := ml_li hb h i (by omega)
    by_cases c : o i = 0
    · have hf := (h i (by omega)).1 c
      unfold mlS liS
      rw [if_pos c, if_neg hf.2, ih]
      rcases hl : liS f i with _ | k
      · rfl
      · have hk := ml_lt (ih.trans hl)
        have hfk := (h k (by omega)).1 hk.2
        have b1 := hb k (by omega)
        have b2 := hb i (by omega)
        have hle := sq_le b1.1 b1.2 b2.1 b2.2
        rw [← hfk.1, ← hf.1] at hle
        show (if abI (z k) ≤ abI (z i) then some k else some i) = if f k ≤ f i then some k else some i
        by_cases c2 : f k ≤ f i
        · rw [if_pos c2, if_pos (hle.mp c2)]
        · rw [if_neg c2, if_neg (fun e => c2 (hle.mpr e))]
    · have hf := (h i (by omega)).2 c
      unfold mlS liS
      rw [if_neg c, hf, if_pos (by decide)]
      exact ih
theorem si_up (h : SiW z o f) {w : Nat} : SiW z (upd o w 1) (upd f w 0) := fun k hk => by
  unfold upd
  by_cases c : k = w
  · rw [if_pos c, if_pos c]
    exact ⟨fun e => absurd e (by decide), fun _ => rfl⟩
  · rw [if_neg c, if_neg c]
    exact h k hk
end

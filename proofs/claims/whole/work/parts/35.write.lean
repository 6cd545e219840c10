/-! what the writers write, told both ways -/
section
variable {m : Nat} {z : Nat → Int32}
theorem rl_tm {b k : Nat} (hk : k < 8) : tmF z b k = tuF z b k := by
  unfold tmF tuF
  rw [if_pos hk]
  rcases wv_pm k b with e | e
  · rw [e, if_pos (by decide)]; grind
  · rw [e, if_neg (by decide)]; grind
theorem rl_do0 {x : Int32} : ∀ i, i ≤ 8 → cnS z i = doS z x i + cnS (dmF z x) i
  | 0, _ => rfl
  | i + 1, hi => by
    have h := rl_do0 (x := x) i (by omega)
    have e : dmF z x i = if x ≤ abI (z i) then z i else 0 := by unfold dmF; rw [if_pos (by omega)]
    show cnS z i + (if z i = 0 then 0 else 1) = (if z i = 0 then doS z x i else if x ≤ abI (z i) then doS z x i else doS z x i + 1) + (cnS (dmF z x) i + (if dmF z x i = 0 then 0 else 1))
    rw [h, e]
    by_cases c : z i = 0
    · rw [if_pos c, if_pos c, c]
      have e2 : (if x ≤ abI 0 then (0 : Int32) else 0) = 0 := by split <;> rfl
      rw [e2, if_pos rfl]; grind
    · rw [if_neg c, if_neg c]
      by_cases c2 : x ≤ abI (z i)
      · rw [if_pos c2, if_pos c2, if_neg c]; grind
      · rw [if_neg c2, if_neg c2, if_pos rfl]; grind
theorem rl_do (x : Int32) : cnS z 8 - cnS (dmF z x) 8 = doS z x 8 := by
  have h := rl_do0 (z := z) (x := x) 8 (Nat.le_refl 8)
  grind
theorem rl_up (h : RlW m z) {j : Nat} {x : Int32} (hj : j < 8 ∨ 16 ≤ j) : RlW m (upd z j x) := ⟨h.1, fun k hk => by
  unfold upd
  rw [if_neg (by omega)]
  exact h.2 k hk⟩
theorem xr_0 : ∀ m, m < 256 → ∀ k, k < 8 → m ^^^ 2 ^ k < 256 ∧ ∀ j, j < 8 → lbI (m ^^^ 2 ^ k) j = if j = k then 1 - lbI m k else lbI m j := by decide +kernel
theorem rl_lo (h : RlW m z) {k : Nat} (hk : k < 8) : RlW (m ^^^ 2 ^ k) (upd z (8 + k) (1 - z (8 + k))) := by
  have h0 := xr_0 m h.1 k hk
  refine ⟨h0.1, fun j hj => ?_⟩
  rw [h0.2 j hj]
  unfold upd
  by_cases c : j = k
  · subst c; rw [if_pos rfl, if_pos rfl, h.2 j hj]
  · rw [if_neg (by omega), if_neg c]; exact h.2 j hj
theorem rl_lor (h : RlW m z) {k : Nat} (hk : k < 8) : lbI (m ^^^ 2 ^ k) k = 1 - z (8 + k) := by
  rw [(xr_0 m h.1 k hk).2 k hk, if_pos rfl, h.2 k hk]
theorem rl_tmW (h : RlW m z) (b : Nat) : RlW m (tmF z b) := ⟨h.1, fun k hk => by unfold tmF; rw [if_neg (by omega)]; exact h.2 k hk⟩
theorem rl_dmW (h : RlW m z) (x : Int32) : RlW m (dmF z x) := ⟨h.1, fun k hk => by unfold dmF; rw [if_neg (by omega)]; exact h.2 k hk⟩
theorem rl_cpW (h : RlW m z) : RlW m (cpM z) := ⟨h.1, fun k hk => by unfold cpM; rw [if_pos (by omega)]; exact h.2 k hk⟩
theorem rl_fmW : RlW 0 (fmM z) := ⟨by decide, fun k hk => by
  unfold fmM
  rw [if_neg (by omega), if_pos (by omega)]
  unfold lbI
  rw [Nat.zero_div]; rfl⟩
end

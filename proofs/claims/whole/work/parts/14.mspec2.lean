/-! the reference's writers -/
section
variable {D : va_G} {T : Nat → ClassId} {ad : Nat → Nat} {I : Nat → Int32} {R : Nat → Nat → Int32} {k : Nat} {f g : Nat → Int32} {x y : Int32} {H : Heap}
theorem m_upd (h : va_P D vwCl (mw T ad I (updR (updR R k f) k g)) H) : va_P D vwCl (mw T ad I (updR R k g)) H := by rw [updR_upd] at h; exact h
theorem m_self (h : va_P D vwCl (mw T ad I R) H) : va_P D vwCl (mw T ad I (updR R k (R k))) H := by rw [updR_self]; exact h
theorem m_updI (h : va_P D vwCl (mw T ad (upd (upd I k x) k y) R) H) : va_P D vwCl (mw T ad (upd I k y) R) H := by rw [upd_upd] at h; exact h
theorem m_selfI (e : I k = x) (h : va_P D vwCl (mw T ad I R) H) : va_P D vwCl (mw T ad (upd I k x) R) H := by rw [← e, upd_self]; exact h
theorem m_fin0 (h : va_P D vwCl (mw T ad I (updR R 0 f)) H) (hf : ∀ j, j < 25 → f j = g j) : va_P D vwCl (mw T ad I (updR R 0 g)) H := m_upd (cx_re h mw_1 hf mw_R0)
end
/-- what recording does to the rows of saved states: sb states stay, the state z is behind them -/
def recP (S z : Nat → Int32) (sv : Nat) (f : Nat → Int32) : Prop := ∃ sb, sb + 1 = min (sv + 1) 6 ∧ (∀ k, k < 25 → f (25 * sb + k) = z k) ∧ ∀ j, j < 25 * sb → f j = S (j + 25 * (sv - sb))
theorem ru_1 {f g : Nat → Int32} {b i : Nat} {x : Int32} (h : ∀ j, j < i → f (b + j) = g j) (e : x = g i) : ∀ j, j < i + 1 → upd f (b + i) x (b + j) = g j := fun j hj => by
  unfold upd
  split
  · rename_i e2; rw [show j = i by omega]; exact e
  · exact h j (by omega)
theorem ru_2 {f g : Nat → Int32} {b i : Nat} {x : Int32} (h : ∀ j, j < b → f j = g j) : ∀ j, j < b → upd f (b + i) x j = g j := fun j hj => by
  unfold upd; rw [if_neg (by omega)]; exact h j hj
theorem tsm_a {a f : Nat → Int32} {b i : Nat} {s : Int32} (h : s = tuS a b i) (h2 : f i = a i) (z : f i = 0) : s + 0 = tuS a b (i + 1) := by
  unfold tuS
  rw [Int32.add_zero, h]
  split
  · rfl
  · rw [if_pos (h2 ▸ z)]
theorem tsm_b {a : Nat → Int32} {b i : Nat} {s : Int32} (h : s = tuS a b i) (c : 0 ≤ wv i b) : s + 0 = tuS a b (i + 1) := by unfold tuS; rw [if_pos c, Int32.add_zero, h]
theorem tsm_c {a f : Nat → Int32} {b i : Nat} {s : Int32} (h : s = tuS a b i) (h2 : f i = a i) (z : ¬ f i = 0) (c : ¬ 0 ≤ wv i b) : s + 1 = tuS a b (i + 1) := by unfold tuS; rw [if_neg c, if_neg (h2 ▸ z), h]
def tmF (z : Nat → Int32) (b j : Nat) : Int32 := if j < 8 then z j * wv j b else z j
/-- a part of a row that takes the numbers of g -/
theorem mid_1 {f g z : Nat → Int32} {i : Nat} {x : Int32} (h1 : ∀ j, j < i → f j = g j) (e : x = g i) : ∀ j, j < i + 1 → upd f i x j = g j := up_at h1 e
theorem tm_e {z f : Nat → Int32} {b i : Nat} (hi : i < 8) (h : f i = z i) : f i * wv i b = tmF z b i := by unfold tmF; rw [if_pos hi, h]
theorem tm_fin {z f : Nat → Int32} {b : Nat} (h1 : ∀ j, j < 8 → f j = tmF z b j) (h2 : ∀ j, 8 ≤ j → f j = z j) : ∀ j, j < 25 → f j = tmF z b j := fun j hj => by
  rcases Nat.lt_or_ge j 8 with h | h
  · exact h1 j h
  · rw [h2 j h]; unfold tmF; rw [if_neg (by omega)]
def dmF (z : Nat → Int32) (x : Int32) (j : Nat) : Int32 := if j < 8 then (if x ≤ abI (z j) then z j else 0) else z j
theorem dm_t {z f : Nat → Int32} {x : Int32} {i : Nat} (hi : i < 8) (h : f i = z i) (c : x ≤ abI (f i)) : f i = dmF z x i := by unfold dmF; rw [if_pos hi, if_pos (h ▸ c), h]
theorem dm_f {z f : Nat → Int32} {x : Int32} {i : Nat} (hi : i < 8) (h : f i = z i) (c : ¬ x ≤ abI (f i)) : 0 = dmF z x i := by unfold dmF; rw [if_pos hi, if_neg (h ▸ c)]
theorem dm_fin {z f : Nat → Int32} {x : Int32} (h1 : ∀ j, j < 8 → f j = dmF z x j) (h2 : ∀ j, 8 ≤ j → f j = z j) : ∀ j, j < 25 → f j = dmF z x j := fun j hj => by
  rcases Nat.lt_or_ge j 8 with h | h
  · exact h1 j h
  · rw [h2 j h]; unfold dmF; rw [if_neg (by omega)]

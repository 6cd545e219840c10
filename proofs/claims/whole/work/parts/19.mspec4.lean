/-! the reference's fewest wheels -/
section
variable {D : va_G} {T : Nat → ClassId} {ad : Nat → Nat} {I : Nat → Int32} {R : Nat → Nat → Int32} {f g : Nat → Int32} {H : Heap}
theorem m_fin5 (h : va_P D vwCl (mw T ad I (updR R 5 f)) H) (hf : ∀ j, j < 8 → f j = g j) : va_P D vwCl (mw T ad I (updR R 5 g)) H := m_upd (cx_re h mw_6 hf mw_R5)
end
def oM (z : Nat → Int32) (j : Nat) : Int32 := if us z j = 0 then 1 else 0
/-- how many are 0, below i -/
def zc (o : Nat → Int32) : Nat → Nat
  | 0 => 0
  | i + 1 => zc o i + (if o i = 0 then 1 else 0)
theorem zc_le (o : Nat → Int32) : ∀ i, zc o i ≤ i
  | 0 => Nat.le_refl 0
  | i + 1 => by
    have h := zc_le o i
    unfold zc
    split <;> omega
theorem om_t {z : Nat → Int32} {i : Nat} (c : us z i = 0) : 1 = oM z i := by unfold oM; rw [if_pos c]
theorem om_f {z : Nat → Int32} {i : Nat} (c : ¬ us z i = 0) : 0 = oM z i := by unfold oM; rw [if_neg c]
theorem zo_t {z : Nat → Int32} {i n : Nat} (h : n = zc (oM z) i) (c : us z i = 0) : n + 0 = zc (oM z) (i + 1) := by
  unfold zc; rw [← om_t c, if_neg (by decide), h]
theorem zo_f {z : Nat → Int32} {i n : Nat} (h : n = zc (oM z) i) (c : ¬ us z i = 0) : n + 1 = zc (oM z) (i + 1) := by
  unfold zc; rw [← om_f c, if_pos rfl, h]
/-- the least of those that are 0 in o -/
def mlS (z o : Nat → Int32) : Nat → Option Nat
  | 0 => none
  | k + 1 => if o k = 0 then (match mlS z o k with
    | none => some k
    | some l => if abI (z l) ≤ abI (z k) then some l else some k) else mlS z o k
section
variable {z o : Nat → Int32} {k l : Nat} {lo : Option Nat}
theorem ml_a (h : lo = mlS z o k) (c : ¬ o k = 0) : lo = mlS z o (k + 1) := by unfold mlS; rw [if_neg c]; exact h
theorem ml_b (h : none = mlS z o k) (c : o k = 0) : some k = mlS z o (k + 1) := by unfold mlS; rw [if_pos c, ← h]
theorem ml_c (h : some l = mlS z o k) (c : o k = 0) (c2 : abI (z l) ≤ abI (z k)) : some l = mlS z o (k + 1) := by unfold mlS; rw [if_pos c, ← h]; simp [c2]
theorem ml_d (h : some l = mlS z o k) (c : o k = 0) (c2 : ¬ abI (z l) ≤ abI (z k)) : some k = mlS z o (k + 1) := by unfold mlS; rw [if_pos c, ← h]; simp [c2]
theorem ml_lt : ∀ {k l : Nat}, mlS z o k = some l → l < k ∧ o l = 0
  | 0, l, h => by cases h
  | k + 1, l, h => by
    unfold mlS at h
    split at h
    · rename_i c
      split at h
      · cases h; exact ⟨Nat.lt_succ_self k, c⟩
      · rename_i l0 h0
        have h1 := ml_lt h0
        split at h <;> cases h
        · exact ⟨Nat.lt_succ_of_lt h1.1, h1.2⟩
        · exact ⟨Nat.lt_succ_self k, c⟩
    · have h1 := ml_lt h; exact ⟨Nat.lt_succ_of_lt h1.1, h1.2⟩
theorem ml_no : ∀ {k : Nat}, mlS z o k = none → zc o k = 0
  | 0, _ => rfl
  | k + 1, h => by
    unfold mlS at h
    unfold zc
    split at h
    · split at h
      · cases h
      · split at h <;> cases h
    · rename_i c
      rw [if_neg c, ml_no h]
end
theorem zc_up0 {o : Nat → Int32} {l : Nat} : ∀ {i : Nat}, i ≤ l → zc (upd o l 1) i = zc o i
  | 0, _ => rfl
  | i + 1, h => by
    unfold zc
    rw [zc_up0 (by omega), show upd o l 1 i = o i from by unfold upd; rw [if_neg (by omega)]]
theorem zc_up {o : Nat → Int32} {l : Nat} (h0 : o l = 0) : ∀ {i : Nat}, l < i → zc (upd o l 1) i + 1 = zc o i
  | 0, h => by omega
  | i + 1, h => by
    unfold zc
    rcases Nat.lt_or_ge l i with h1 | h1
    · have h2 := zc_up (o := o) h0 h1
      rw [show upd o l 1 i = o i from by unfold upd; rw [if_neg (by omega)]]
      omega
    · have e : l = i := by omega
      subst e
      rw [zc_up0 (Nat.le_refl l), show upd o l 1 l = 1 from by unfold upd; rw [if_pos rfl], if_neg (by decide), if_pos h0]
def fmR (z : Nat → Int32) : Nat → (Nat → Int32) → Int32 → Nat → Nat
  | 0, _, _, my => my
  | n + 1, o, left, my => match mlS z o 8 with
    | none => my
    | some l => if left - 8 * z l * z l < 0 then my else if my - 1 ≤ 0 then my - 1 else fmR z n (upd o l 1) (left - 8 * z l * z l) (my - 1)
def fmF (z : Nat → Int32) (x : Int32) : Nat := if zc (oM z) 8 ≤ 0 then zc (oM z) 8 else fmR z 8 (oM z) x (zc (oM z) 8)
section
variable {z o : Nat → Int32} {n l my : Nat} {left : Int32}
theorem fmr_a (hn : 0 < n) (h : mlS z o 8 = some l) (c : left - 8 * z l * z l < 0) : fmR z n o left my = my := by
  obtain ⟨n, rfl⟩ : ∃ k, n = k + 1 := ⟨n - 1, by omega⟩
  unfold fmR; rw [h]; simp [c]
theorem fmr_b (hn : 0 < n) (h : mlS z o 8 = some l) (c : ¬ left - 8 * z l * z l < 0) (c2 : my - 1 ≤ 0) : fmR z n o left my = my - 1 := by
  obtain ⟨n, rfl⟩ : ∃ k, n = k + 1 := ⟨n - 1, by omega⟩
  unfold fmR; rw [h]
  show (if left - 8 * z l * z l < 0 then my else if my - 1 ≤ 0 then my - 1 else _) = my - 1
  rw [if_neg c, if_pos c2]
theorem fmr_c (hn : 0 < n) (h : mlS z o 8 = some l) (c : ¬ left - 8 * z l * z l < 0) (c2 : ¬ my - 1 ≤ 0) : fmR z n o left my = fmR z (n - 1) (upd o l 1) (left - 8 * z l * z l) (my - 1) := by
  obtain ⟨n, rfl⟩ : ∃ k, n = k + 1 := ⟨n - 1, by omega⟩
  conv => lhs; unfold fmR
  rw [h]
  show (if left - 8 * z l * z l < 0 then my else if my - 1 ≤ 0 then my - 1 else _) = _
  rw [if_neg c, if_neg c2]; rfl
end

/-! the reference's texts: the first fault -/
def mrp1 (a : Nat → Int32) (i : Nat) : Int32 := (rpF a 0 i).1
theorem mrp1_eq {a : Nat → Int32} {x : Int32} {i : Nat} : (rpF a x i).1 = mrp1 a i := by
  unfold mrp1 rpF
  split
  · rfl
  · split
    · rfl
    · split
      · rfl
      · rfl
theorem nI_neg : ∀ i, i < 100 → (-1 - nI i < 0 ∧ -2 - nI i < 0) := by decide +kernel
theorem at_lt {t : Nat → Int32} {len i : Nat} {x : Int32} (h : atF t len i = x) (hx : x ≠ 0) : i < len := by
  rcases Nat.lt_or_ge i len with h1 | h1
  · exact h1
  · exact absurd (h.symm.trans (at_f h1).symm) hx
theorem at_in {t : Nat → Int32} {len i : Nat} (h : ¬ inI (atF t len i) 48 57 = 0) : i < len := by
  rcases Nat.lt_or_ge i len with h1 | h1
  · exact h1
  · rw [← at_f h1] at h; exact absurd (by decide) h
theorem at_in9 {t : Nat → Int32} {len i : Nat} {n : Int32} (hn : n = 0 ∨ n = 1) (h : ¬ inI (atF t len i - 48) n 9 = 0) : i < len := by
  rcases Nat.lt_or_ge i len with h1 | h1
  · exact h1
  · rw [← at_f h1] at h
    rcases hn with rfl | rfl
    · exact absurd (by decide) h
    · exact absurd (by decide) h
theorem rg_cs {t : Nat → Int32} {len i : Nat} {n : Int32} (hn : n = 0 ∨ n = 1) (hi : i < 100) : (rpG (atF t len) n i).1 < 0 ∨ ∃ j, (rpG (atF t len) n i).1 = nI j ∧ i + 1 ≤ j ∧ j ≤ len := by
  by_cases c : inI (atF t len i - 48) n 9 = 0
  · rw [rg_a c]; exact Or.inl (nI_neg i hi).1
  · have h1 := at_in9 hn c
    by_cases c2 : atF t len i - 48 ≤ 0
    · rw [rg_b c c2]; exact Or.inr ⟨i + 1, rfl, by omega, by omega⟩
    · by_cases c3 : inI (atF t len (i + 1)) 48 57 = 0
      · rw [rg_c c c2 c3]; exact Or.inr ⟨i + 1, rfl, by omega, by omega⟩
      · have h2 := at_in c3
        rw [rg_d c c2 c3]; exact Or.inr ⟨i + 2, rfl, by omega, by omega⟩
theorem rp_cs {t : Nat → Int32} {len i : Nat} (hi : i ≤ 90) : mrp1 (atF t len) i < 0 ∨ ∃ j, mrp1 (atF t len) i = nI j ∧ i + 2 ≤ j ∧ j ≤ len := by
  unfold mrp1
  by_cases c : inI (atF t len i - 97) 0 7 = 0
  · rw [rp_a c]; exact Or.inl (nI_neg i (by omega)).1
  · by_cases c2 : atF t len (i + 1) = 33
    · have h1 := at_lt c2 (by decide)
      rw [rp_b c c2]; exact Or.inr ⟨i + 2, rfl, by omega, by omega⟩
    · by_cases c3 : atF t len (i + 1) = 61
      · by_cases c4 : atF t len (i + 2) = 45
        · rw [rp_d c c2 c3 c4]
          rcases rg_cs (t := t) (len := len) (i := i + 3) (Or.inr rfl) (by omega) with h | ⟨j, h, h1, h2⟩
          · exact Or.inl h
          · exact Or.inr ⟨j, h, by omega, h2⟩
        · rw [rp_e c c2 c3 c4]
          rcases rg_cs (t := t) (len := len) (i := i + 2) (Or.inl rfl) (by omega) with h | ⟨j, h, h1, h2⟩
          · exact Or.inl h
          · exact Or.inr ⟨j, h, by omega, h2⟩
      · rw [rp_c c c2 c3]; exact Or.inl (nI_neg i (by omega)).2
/-- the place of the first fault from i on, or -1 -/
def ferS (t : Nat → Int32) (len : Nat) : Nat → Nat → Int32
  | 0, _ => -1
  | n + 1, i => if mrp1 (atF t len) i < 0 then -1 - mrp1 (atF t len) i
    else if (mrp1 (atF t len) i).toNatClampNeg = len then -1
    else if t (mrp1 (atF t len) i).toNatClampNeg = 59 then ferS t len n ((mrp1 (atF t len) i).toNatClampNeg + 1)
    else mrp1 (atF t len) i
section
variable {t : Nat → Int32} {len n i j : Nat}
theorem fer_a (hn : 0 < n) (h : mrp1 (atF t len) i < 0) : ferS t len n i = -1 - mrp1 (atF t len) i := by
  obtain ⟨n, rfl⟩ : ∃ k, n = k + 1 := ⟨n - 1, by omega⟩
  unfold ferS; rw [if_pos h]
theorem nI_cl : ∀ j, j < 100 → (nI j).toNatClampNeg = j ∧ ¬ nI j < 0 := by decide +kernel
theorem fer_b (hn : 0 < n) (h : mrp1 (atF t len) i = nI j) (hj : j < 100) (c : j = len) : ferS t len n i = -1 := by
  obtain ⟨n, rfl⟩ : ∃ k, n = k + 1 := ⟨n - 1, by omega⟩
  unfold ferS; rw [h, if_neg (nI_cl j hj).2, (nI_cl j hj).1, if_pos c]
theorem fer_c (hn : 0 < n) (h : mrp1 (atF t len) i = nI j) (hj : j < 100) (c : ¬ j = len) (c2 : ¬ t j = 59) : ferS t len n i = nI j := by
  obtain ⟨n, rfl⟩ : ∃ k, n = k + 1 := ⟨n - 1, by omega⟩
  unfold ferS; rw [h, if_neg (nI_cl j hj).2, (nI_cl j hj).1, if_neg c, if_neg c2]
theorem fer_d (hn : 0 < n) (h : mrp1 (atF t len) i = nI j) (hj : j < 100) (c : ¬ j = len) (c2 : t j = 59) : ferS t len n i = ferS t len (n - 1) (j + 1) := by
  obtain ⟨n, rfl⟩ : ∃ k, n = k + 1 := ⟨n - 1, by omega⟩
  conv => lhs; unfold ferS
  rw [h, if_neg (nI_cl j hj).2, (nI_cl j hj).1, if_neg c, if_pos c2]; rfl
end
theorem upd345 {I : Nat → Int32} {w b x w1 b1 x1 : Int32} : upd (upd (upd (upd (upd (upd I 3 w) 5 b) 4 x) 3 w1) 5 b1) 4 x1 = upd (upd (upd I 3 w1) 5 b1) 4 x1 := funext fun j => by
  unfold upd
  split
  · rfl
  · split
    · rfl
    · split
      · rfl
      · rfl
theorem upd345_self {I : Nat → Int32} : upd (upd (upd I 3 (I 3)) 5 (I 5)) 4 (I 4) = I := funext fun j => by
  unfold upd
  split
  · rename_i h; subst h; rfl
  · split
    · rename_i h; subst h; rfl
    · split
      · rename_i h; subst h; rfl
      · rfl
section
variable {D : va_G} {T : Nat → ClassId} {ad : Nat → Nat} {I : Nat → Int32} {R : Nat → Nat → Int32} {w b x w1 b1 x1 : Int32} {H : Heap}
theorem m_345 (h : va_P D vwCl (mw T ad (upd (upd (upd (upd (upd (upd I 3 w) 5 b) 4 x) 3 w1) 5 b1) 4 x1) R) H) : va_P D vwCl (mw T ad (upd (upd (upd I 3 w1) 5 b1) 4 x1) R) H := by rw [← upd345]; exact h
theorem m_345s (h : va_P D vwCl (mw T ad I R) H) : va_P D vwCl (mw T ad (upd (upd (upd I 3 (I 3)) 5 (I 5)) 4 (I 4)) R) H := by rw [upd345_self]; exact h
end

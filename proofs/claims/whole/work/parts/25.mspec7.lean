/-! the reference's texts: the wheels out of a text -/
def wlF (a : Nat → Int32) (i : Nat) : Nat := (a i - 97).toNatClampNeg
def ldA (a : Nat → Int32) (i : Nat) : Int32 := (rpF a 0 i).2
def clM (z : Nat → Int32) (j : Nat) : Int32 := if j < 16 then 0 else z j
theorem cl_t {z : Nat → Int32} {i : Nat} (h : i < 16) : 0 = clM z i := by unfold clM; rw [if_pos h]
theorem cl_fin {z f : Nat → Int32} (h1 : ∀ j, j < 16 → f j = clM z j) (h2 : ∀ j, 16 ≤ j → f j = z j) : ∀ j, j < 25 → f j = clM z j := fun j _ => by
  rcases Nat.lt_or_ge j 16 with h | h
  · exact h1 j h
  · rw [h2 j h]; unfold clM; rw [if_neg (by omega)]
theorem wl_0 {v : Int32} (h : ¬ inI v 0 7 = 0) : v = nI v.toNatClampNeg ∧ v.toNatClampNeg < 8 := by
  unfold inI at h
  split at h
  · exact absurd rfl h
  · split at h
    · exact absurd rfl h
    · rename_i h1 h2
      have a1 : (0 : Int32) ≤ v := Int32.not_lt.mp h1
      have a2 : v ≤ 7 := Int32.not_lt.mp h2
      have b1 := Int32.le_iff_toInt_le.mp a1
      have b2 := Int32.le_iff_toInt_le.mp a2
      have c1 : (0 : Int32).toInt = 0 := rfl
      have c2 : (7 : Int32).toInt = 7 := rfl
      rw [c1] at b1
      rw [c2] at b2
      have d : v.toNatClampNeg = v.toInt.toNat := rfl
      refine ⟨?_, by omega⟩
      apply Int32.toInt_inj.mp
      rcases (show v.toInt = 0 ∨ v.toInt = 1 ∨ v.toInt = 2 ∨ v.toInt = 3 ∨ v.toInt = 4 ∨ v.toInt = 5 ∨ v.toInt = 6 ∨ v.toInt = 7 by omega) with e | e | e | e | e | e | e | e <;> (rw [d, e]; rfl)
theorem wl_1 {t : Nat → Int32} {len i j : Nat} (hi : i ≤ 90) (hq : mrp1 (atF t len) i = nI j) (hj : j < 100) : atF t len i - 97 = nI (wlF (atF t len) i) ∧ wlF (atF t len) i < 8 := by
  refine wl_0 (fun c => ?_)
  unfold mrp1 at hq
  rw [rp_a c] at hq
  exact (nI_cl j hj).2 (hq ▸ (nI_neg i (by omega)).1)
theorem lda_eq {a : Nat → Int32} {i j : Nat} {x : Int32} (hi : i ≤ 90) (hq : mrp1 a i = nI j) (hj : j < 100) (c : rpL a i = 0) : (rpF a x i).2 = ldA a i := by
  unfold ldA
  have c0 : ¬ inI (a i - 97) 0 7 = 0 := fun c => by
    unfold mrp1 at hq
    rw [rp_a c] at hq
    exact (nI_cl j hj).2 (hq ▸ (nI_neg i (by omega)).1)
  have c2 : ¬ a (i + 1) = 33 := fun c2 => by rw [rpl_t c2] at c; exact absurd c (by decide)
  by_cases c3 : a (i + 1) = 61
  · by_cases c4 : a (i + 2) = 45
    · rw [rp_d c0 c2 c3 c4, rp_d c0 c2 c3 c4]
    · rw [rp_e c0 c2 c3 c4, rp_e c0 c2 c3 c4]
  · unfold mrp1 at hq
    rw [rp_c c0 c2 c3] at hq
    exact absurd (hq ▸ (nI_neg i (by omega)).2) (nI_cl j hj).2
theorem m1_sub {x : Int32} (h : -1 - x = -1) : x = 0 := by
  have h2 : -1 - (-1 - x) = -1 - (-1) := by rw [h]
  grind
section
variable {t : Nat → Int32} {len n i j : Nat}
theorem fer_ok (hi : i ≤ 90) (hn : 0 < n) (h : ferS t len n i = -1) : ∃ j, mrp1 (atF t len) i = nI j ∧ i + 2 ≤ j ∧ j ≤ len ∧ (j < 100 → j = len ∨ ferS t len (n - 1) (j + 1) = -1) := by
  rcases rp_cs (t := t) (len := len) hi with hq | ⟨j, hq, h1, h2⟩
  · rw [fer_a hn hq] at h
    rw [m1_sub h] at hq
    exact absurd hq (by decide)
  · refine ⟨j, hq, h1, h2, fun hj => ?_⟩
    by_cases c : j = len
    · exact Or.inl c
    · by_cases c2 : t j = 59
      · rw [fer_d hn hq hj c c2] at h; exact Or.inr h
      · rw [fer_c hn hq hj c c2] at h
        exact absurd (h ▸ (nI_cl j hj).2) (by decide)
end
/-- the wheels out of a text without a fault -/
def ldS (a : Nat → Int32) (len : Nat) : Nat → Nat → (Nat → Int32) → Nat → Int32
  | 0, _, f => f
  | n + 1, i, f => if i < len then ldS a len n ((mrp1 a i).toNatClampNeg + 1) (if rpL a i = 0 then upd f (wlF a i) (ldA a i) else upd f (8 + wlF a i) 1) else f
def ldF (t : Nat → Int32) (len : Nat) (z : Nat → Int32) : Nat → Int32 := ldS (atF t len) len 61 0 (clM z)
section
variable {a f : Nat → Int32} {len n i j : Nat}
theorem ld_a (hn : 0 < n) (hi : i < len) (hq : mrp1 a i = nI j) (hj : j < 100) (c : rpL a i = 0) : ldS a len n i f = ldS a len (n - 1) (j + 1) (upd f (wlF a i) (ldA a i)) := by
  obtain ⟨n, rfl⟩ : ∃ k, n = k + 1 := ⟨n - 1, by omega⟩
  conv => lhs; unfold ldS
  rw [hq, (nI_cl j hj).1, if_pos hi, if_pos c]; rfl
theorem ld_b (hn : 0 < n) (hi : i < len) (hq : mrp1 a i = nI j) (hj : j < 100) (c : ¬ rpL a i = 0) : ldS a len n i f = ldS a len (n - 1) (j + 1) (upd f (8 + wlF a i) 1) := by
  obtain ⟨n, rfl⟩ : ∃ k, n = k + 1 := ⟨n - 1, by omega⟩
  conv => lhs; unfold ldS
  rw [hq, (nI_cl j hj).1, if_pos hi, if_neg c]; rfl
theorem ld_e (h : len ≤ i) : ldS a len n i f = f := by
  cases n
  · rfl
  · unfold ldS; rw [if_neg (by omega)]
end
theorem updord {I : Nat → Int32} {w b x y v : Int32} : upd (upd (upd (upd (upd I 3 w) 5 b) 4 x) 0 y) 1 v = upd (upd (upd (upd (upd I 0 y) 1 v) 3 w) 5 b) 4 x := funext fun j => by
  by_cases h0 : j = 0
  · subst h0; rfl
  · by_cases h1 : j = 1
    · subst h1; rfl
    · by_cases h3 : j = 3
      · subst h3; rfl
      · by_cases h4 : j = 4
        · subst h4; rfl
        · by_cases h5 : j = 5
          · subst h5; rfl
          · unfold upd; simp only [if_neg h0, if_neg h1, if_neg h3, if_neg h4, if_neg h5]
section
variable {D : va_G} {T : Nat → ClassId} {ad : Nat → Nat} {I : Nat → Int32} {R : Nat → Nat → Int32} {w b x y v : Int32} {H : Heap}
theorem m_ord (h : va_P D vwCl (mw T ad (upd (upd (upd (upd (upd I 3 w) 5 b) 4 x) 0 y) 1 v) R) H) : va_P D vwCl (mw T ad (upd (upd (upd (upd (upd I 0 y) 1 v) 3 w) 5 b) 4 x) R) H := by rw [← updord]; exact h
end

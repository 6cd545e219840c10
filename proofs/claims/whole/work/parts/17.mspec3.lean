/-! copy and fit of the reference -/
theorem us_lo {f z : Nat → Int32} (h : ∀ j, j < 16 → f j = z j) : ∀ k, k < 8 → us f k = us z k := fun k hk => by
  unfold us; rw [h (8 + k) (by omega), h k (by omega)]
theorem sub_0 {x y : Int32} (h : x - y = 0) : x = y := by
  have e : x = x - y + y := (Int32.sub_add_cancel x y).symm
  rw [h, Int32.zero_add] at e; exact e
theorem sub_n {x y : Int32} (h : ¬ x - y = 0) : ¬ x = y := fun e => h (by rw [e, Int32.sub_self])
def cpM (z : Nat → Int32) (j : Nat) : Int32 := if j < 16 then z j else if j < 24 then trS (us z) (j - 16) 8 else z j
def cpT (z : Nat → Int32) (n : Nat) : Int32 := trS (us z) n 8
theorem cgm_a {q g : Nat → Int32} {i : Nat} {s : Int32} (hs : s = cgS q g i) (c : q i - g i = 0) : s + 0 = cgS q g (i + 1) := by
  unfold cgS; rw [if_pos (sub_0 c), Int32.add_zero, hs]
theorem cgm_b {q g : Nat → Int32} {i : Nat} {s : Int32} (hs : s = cgS q g i) (c : ¬ q i - g i = 0) : s + 1 = cgS q g (i + 1) := by
  unfold cgS; rw [if_neg (sub_n c), hs]
theorem cp_fin {z f : Nat → Int32} (h1 : ∀ j, j < 8 → f (16 + j) = cpT z j) (h2 : ∀ j, j < 16 ∨ 24 ≤ j → f j = z j) : ∀ j, j < 25 → f j = cpM z j := fun j hj => by
  unfold cpM
  split
  · exact h2 j (Or.inl (by assumption))
  · split
    · have h := h1 (j - 16) (by omega)
      rw [show 16 + (j - 16) = j by omega] at h; exact h
    · exact h2 j (Or.inr (by omega))
theorem toI_lt (x y : Int32) : x < y ↔ x.toInt < y.toInt := Int32.lt_iff_toInt_lt
theorem cl_a {v : Int32} (c : ¬ -99 ≤ v) : -99 = clI v := by
  have h1 : v.toInt < -99 := by
    have h : ¬ (-99 : Int32).toInt ≤ v.toInt := fun h => c ((toI_le (-99) v).mpr h)
    have e : (-99 : Int32).toInt = -99 := rfl
    rw [e] at h; omega
  have h2 : v < 99 := (toI_lt v 99).mpr (by have e : (99 : Int32).toInt = 99 := rfl; rw [e]; omega)
  have h3 : ¬ (-99 : Int32) < v := fun h => by
    have h4 := (toI_lt (-99) v).mp h
    have e : (-99 : Int32).toInt = -99 := rfl
    rw [e] at h4; omega
  unfold clI; rw [if_pos h2, if_neg h3]
theorem cl_b {v : Int32} (c : -99 ≤ v) (c2 : ¬ v ≤ 99) : 99 = clI v := by
  have h2 : ¬ v < 99 := fun h => c2 (Int32.le_of_lt h)
  unfold clI; rw [if_neg h2, if_pos (by decide)]
theorem cl_c {v : Int32} (c : -99 ≤ v) (c2 : v ≤ 99) : v = clI v := by
  unfold clI
  by_cases h : v < 99
  · rw [if_pos h]
    by_cases h3 : (-99 : Int32) < v
    · rw [if_pos h3]
    · rw [if_neg h3]
      apply Int32.toInt_inj.mp
      have a := (toI_le (-99) v).mp c
      have b : ¬ (-99 : Int32).toInt < v.toInt := fun h => h3 ((toI_lt (-99) v).mpr h)
      have e : (-99 : Int32).toInt = -99 := rfl
      rw [e] at a b ⊢; omega
  · rw [if_neg h, if_pos (by decide)]
    apply Int32.toInt_inj.mp
    have a := (toI_le v 99).mp c2
    have b : ¬ v.toInt < (99 : Int32).toInt := fun h2 => h ((toI_lt v 99).mpr h2)
    have e : (99 : Int32).toInt = 99 := rfl
    rw [e] at a b ⊢; omega
def fmM (z : Nat → Int32) (j : Nat) : Int32 := if j < 8 then fiF (qz z) j else if j < 16 then 0 else z j
theorem psS_congr {d g : Nat → Int32} {k : Nat} : ∀ {i : Nat}, (∀ n, n < i → d n = g n) → psS d k i = psS g k i
  | 0, _ => rfl
  | i + 1, h => by
    show psS d k i + d i * wv k i = psS g k i + g i * wv k i
    rw [psS_congr (fun n hn => h n (Nat.lt_succ_of_lt hn)), h i (Nat.lt_succ_self i)]
theorem cgf_a {q g : Nat → Int32} {i : Nat} {s x : Int32} (hs : s = cgS q g i) (hx : x = q i) (c : g i = x) : s + 0 = cgS q g (i + 1) := by
  unfold cgS; rw [if_pos (by rw [← hx, c]), Int32.add_zero, hs]
theorem cgf_b {q g : Nat → Int32} {i : Nat} {s x : Int32} (hs : s = cgS q g i) (hx : x = q i) (c : ¬ g i = x) : s + 1 = cgS q g (i + 1) := by
  unfold cgS; rw [if_neg (fun e => c (by rw [hx, e])), hs]
theorem fm_1 {z f : Nat → Int32} {i : Nat} {x : Int32} (hi : i < 8) (h1 : ∀ j, j < i → f j = fiF (qz z) j) (e : x = fiF (qz z) i) : ∀ j, j < i + 1 → upd (upd f i x) (8 + i) 0 j = fiF (qz z) j := fun j hj => by
  unfold upd; rw [if_neg (by omega)]
  split
  · rename_i e2; rw [e2]; exact e
  · exact h1 j (by omega)
theorem fm_2 {f : Nat → Int32} {i : Nat} {x : Int32} (hi : i < 8) (h2 : ∀ j, j < i → f (8 + j) = 0) : ∀ j, j < i + 1 → upd (upd f i x) (8 + i) 0 (8 + j) = 0 := fun j hj => by
  unfold upd
  split
  · rfl
  · rw [if_neg (by omega)]; exact h2 j (by omega)
theorem fm_3 {z f : Nat → Int32} {i : Nat} {x : Int32} (hi : i < 8) (h3 : ∀ j, (i ≤ j ∧ j < 8) ∨ 8 + i ≤ j → f j = z j) : ∀ j, (i + 1 ≤ j ∧ j < 8) ∨ 8 + (i + 1) ≤ j → upd (upd f i x) (8 + i) 0 j = z j := fun j hj => by
  unfold upd; rw [if_neg (by omega), if_neg (by omega)]; exact h3 j (by omega)
theorem fm_fin {z f : Nat → Int32} (h1 : ∀ j, j < 8 → f j = fiF (qz z) j) (h2 : ∀ j, j < 8 → f (8 + j) = 0) (h3 : ∀ j, (8 ≤ j ∧ j < 8) ∨ 8 + 8 ≤ j → f j = z j) : ∀ j, j < 25 → f j = fmM z j := fun j hj => by
  unfold fmM
  split
  · exact h1 j (by assumption)
  · split
    · have h := h2 (j - 8) (by omega)
      rw [show 8 + (j - 8) = j by omega] at h; exact h
    · exact h3 j (by omega)

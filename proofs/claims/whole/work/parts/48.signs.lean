/-! signs of a text, read both ways -/
theorem i32_97 : (97 : Int32).toInt = 97 := rfl
theorem i32_48 : (48 : Int32).toInt = 48 := rfl
theorem in_iff {v a b : Int32} : ¬ inI v a b = 0 ↔ a.toInt ≤ v.toInt ∧ v.toInt ≤ b.toInt := by
  unfold inI
  by_cases h1 : v < a
  · have h1' := Int32.lt_iff_toInt_lt.mp h1
    rw [if_pos h1]
    exact ⟨fun h => absurd rfl h, fun h => by omega⟩
  · have h1' : ¬ v.toInt < a.toInt := fun e => h1 (Int32.lt_iff_toInt_lt.mpr e)
    rw [if_neg h1]
    by_cases h2 : b < v
    · have h2' := Int32.lt_iff_toInt_lt.mp h2
      rw [if_pos h2]
      exact ⟨fun h => absurd rfl h, fun h => by omega⟩
    · have h2' : ¬ b.toInt < v.toInt := fun e => h2 (Int32.lt_iff_toInt_lt.mpr e)
      rw [if_neg h2]
      exact ⟨fun _ => by omega, fun _ => by decide⟩
theorem lt_in0 (x : Int32) : ltI x = inI x 97 104 := rfl
theorem dg_in0 (x : Int32) : dgI x = inI x 48 57 := rfl
theorem ch_ne {x y : Int32} (h : x.toInt ≠ y.toInt) : ¬ x = y := fun e => h (by rw [e])
theorem sub97 {x : Int32} (h1 : 0 ≤ x.toInt) (h2 : x.toInt ≤ 126) : (x - 97).toInt = x.toInt - 97 := by
  rw [Int32.toInt_sub, i32_97, Int.bmod_eq_of_le] <;> omega
theorem sub48 {x : Int32} (h1 : 0 ≤ x.toInt) (h2 : x.toInt ≤ 126) : (x - 48).toInt = x.toInt - 48 := by
  rw [Int32.toInt_sub, i32_48, Int.bmod_eq_of_le] <;> omega
/-- the text's signs -/
def TxT (t : Nat → Int32) (len : Nat) : Prop := len ≤ 60 ∧ ∀ i, i < len → 33 ≤ (t i).toInt ∧ (t i).toInt ≤ 126
section
variable {t : Nat → Int32} {len : Nat}
theorem at_bd (hT : TxT t len) (i : Nat) : 0 ≤ (atF t len i).toInt ∧ (atF t len i).toInt ≤ 126 := by
  unfold atF
  split
  · have := hT.2 i (by assumption)
    omega
  · decide
theorem at_zero {i : Nat} (h : len ≤ i) : atF t len i = 0 := (at_f h).symm
theorem at_i {i : Nat} (h : i < len) : atF t len i = t i := (at_t h).symm
theorem at_lt2 {i : Nat} (h : (atF t len i).toInt ≠ 0) : i < len := by
  rcases Nat.lt_or_ge i len with c | c
  · exact c
  · rw [at_zero c] at h; exact absurd rfl h
/-- the place behind a letter -/
theorem le_in (hT : TxT t len) {i : Nat} : ¬ inI (atF t len i - 97) 0 7 = 0 ↔ ¬ ltI (atF t len i) = 0 := by
  have h := at_bd hT i
  rw [lt_in0, in_iff, in_iff, sub97 h.1 h.2, i32_97]
  have e0 : (0 : Int32).toInt = 0 := rfl
  have e7 : (7 : Int32).toInt = 7 := rfl
  have e4 : (104 : Int32).toInt = 104 := rfl
  rw [e0, e7, e4]
  omega
theorem lt_pos (hT : TxT t len) {i : Nat} (h : ¬ inI (atF t len i - 97) 0 7 = 0) : i < len ∧ ¬ ltI (t i) = 0 := by
  have h1 := (le_in hT).mp h
  have h2 : i < len := at_lt2 (t := t) (by
    rw [lt_in0, in_iff, i32_97] at h1
    omega)
  rw [at_i h2] at h1
  exact ⟨h2, h1⟩
/-- a digit -/
theorem dg_in (hT : TxT t len) {n : Int32} (hn : n = 0 ∨ n = 1) {i : Nat} (h : ¬ inI (atF t len i - 48) n 9 = 0) : i < len ∧ ¬ dgI (t i) = 0 ∧ (n = 1 → ¬ t i = 48) ∧ 48 ≤ (t i).toInt ∧ (t i).toInt ≤ 57 := by
  have hb := at_bd hT i
  have e9 : (9 : Int32).toInt = 9 := rfl
  have e7 : (57 : Int32).toInt = 57 := rfl
  rw [in_iff, sub48 hb.1 hb.2, e9] at h
  have hn0 : 0 ≤ n.toInt := by rcases hn with e | e <;> (rw [e]; decide)
  have h2 : i < len := at_lt2 (t := t) (by omega)
  rw [at_i h2] at h
  refine ⟨h2, ?_, fun e => ?_, by omega, by omega⟩
  · rw [dg_in0, in_iff, i32_48, e7]; omega
  · refine ch_ne ?_
    rw [e] at h
    have e1 : (1 : Int32).toInt = 1 := rfl
    rw [i32_48]; omega
theorem dg_out (hT : TxT t len) {n : Int32} (hn : n = 0 ∨ n = 1) {i : Nat} (hi : i < len) (h : inI (atF t len i - 48) n 9 = 0) : dgI (t i) = 0 ∨ (n = 1 ∧ t i = 48) := by
  have hb := at_bd hT i
  have e9 : (9 : Int32).toInt = 9 := rfl
  have e7 : (57 : Int32).toInt = 57 := rfl
  by_cases c : dgI (t i) = 0
  · exact Or.inl c
  · rw [dg_in0, in_iff, i32_48, e7] at c
    have h3 : ¬ ((atF t len i - 48).toInt ≥ n.toInt ∧ (atF t len i - 48).toInt ≤ (9 : Int32).toInt) := fun g => (in_iff.mpr g) h
    rw [sub48 hb.1 hb.2, e9, at_i hi] at h3
    rcases hn with e | e
    · rw [e, i32_0] at h3; omega
    · have e1 : (1 : Int32).toInt = 1 := rfl
      rw [e, e1] at h3
      refine Or.inr ⟨e, Int32.toInt_inj.mp ?_⟩
      rw [i32_48]; omega
theorem dg_ch {x : Int32} (h : ¬ dgI x = 0) : ltI x = 0 ∧ ¬ x = 33 ∧ ¬ x = 61 ∧ ¬ x = 45 := by
  have e7 : (57 : Int32).toInt = 57 := rfl
  rw [dg_in0, in_iff, i32_48, e7] at h
  refine ⟨?_, ch_ne ?_, ch_ne ?_, ch_ne ?_⟩
  · by_cases c : ltI x = 0
    · exact c
    · rw [lt_in0, in_iff, i32_97] at c
      omega
  · have e : (33 : Int32).toInt = 33 := rfl
    rw [e]; omega
  · have e : (61 : Int32).toInt = 61 := rfl
    rw [e]; omega
  · have e : (45 : Int32).toInt = 45 := rfl
    rw [e]; omega
/-! the machine's places: an error's place, a text's end -/
theorem pl_some {i j p : Nat} (h : plS t j = some p) (hij : i ≤ j) : ∃ q, plS t i = some q := by
  rcases e : plS t i with _ | q
  · have h2 := pl_n e (j - i)
    rw [show i + (j - i) = j by omega, h] at h2
    cases h2
  · exact ⟨q, rfl⟩
theorem ep_to {j p : Nat} (h : plS t j = some p) (hj : j ≤ len) : ∀ d i, i + d = j → epG t (len - i) i = epG t (len - j) j
  | 0, i, e => by rw [show i = j by omega]
  | d + 1, i, e => by
    obtain ⟨q, hq⟩ := pl_some (i := i + 1) h (by omega)
    rw [ep_s (by omega) hq]
    exact ep_to h hj d (i + 1) (by omega)
theorem tw_no {o : Option Nat} (h4 : ¬ o = some 4) (h5 : ¬ o = some 5) : twF o = 0 := by unfold twF; rw [if_neg h4, if_neg h5]
/-- the first error is at e -/
theorem er_at {e i p : Nat} (h : plS t e = some p) (he : e ≤ len) (hx : e < len → pbO p (t e) = none) (hp : e = len → ¬ p = 4 ∧ ¬ p = 5) (hi : i ≤ e) : epG t (len - i) i = e ∧ twF (plS t len) = 0 := by
  rw [ep_to h he (e - i) i (by omega)]
  by_cases c : e < len
  · have hn : plS t (e + 1) = none := by rw [pl_s h]; exact hx c
    have h2 := pl_n hn (len - (e + 1))
    rw [show e + 1 + (len - (e + 1)) = len by omega] at h2
    exact ⟨ep_n c hn, by rw [h2]; rfl⟩
  · have c2 : e = len := by omega
    have hp2 := hp c2
    subst c2
    refine ⟨by rw [Nat.sub_self]; rfl, tw_no ?_ ?_⟩
    · rw [h]; exact fun g => hp2.1 (Option.some.inj g)
    · rw [h]; exact fun g => hp2.2 (Option.some.inj g)
theorem sg_2 {n u y : Int32} (hn : n = 0 ∨ n = 1) : sgF n u * 10 + sgF n (y - 48) = sgF n (10 * u + y - 48) := by
  rcases hn with e | e <;> subst e
  · rw [sg0, sg0, sg0]; grind
  · rw [sg1, sg1, sg1]; grind
theorem sg_bd {n y : Int32} (hn : n = 0 ∨ n = 1) (h1 : 0 ≤ y.toInt) (h2 : y.toInt ≤ 99) : -99 ≤ (sgF n y).toInt ∧ (sgF n y).toInt ≤ 99 := by
  rcases hn with e | e <;> subst e
  · rw [sg0]; omega
  · rw [sg1, neg_I (by omega) (by omega)]; omega
/-- a digit, taken in -/
theorem tt_dg {f : Nat → Int32} {i m w ng : Nat} {n : Int32} (h : tt t i = (f, m, w, ng)) (hd : ¬ dgI (t i) = 0) (hn : (n = 0 ∧ ng = 0) ∨ (n = 1 ∧ ng = 1)) : tt t (i + 1) = (upd f w (f w * 10 + sgF n (t i - 48)), m, w, ng) := by
  obtain ⟨c1, c2, c3, c4⟩ := dg_ch hd
  rcases hn with ⟨e, e2⟩ | ⟨e, e2⟩
  · rw [tt_f h c1 c2 c3 c4 hd e2, e, sg0]
  · rw [tt_g h c1 c2 c3 c4 hd (by omega), e, sg1]
end

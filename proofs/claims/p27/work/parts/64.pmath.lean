/-! sums of a row and of its waves; the law's own ways -/
theorem wv_sym (k n : Nat) : wv k n = wv n k := by unfold wv; rw [Nat.and_comm]
theorem ps_tr (q : Nat → Int32) (k : Nat) : ∀ i, psS q k i = trS q k i
  | 0 => rfl
  | i + 1 => by
    show psS q k i + q i * wv k i = trS q k i + q i * wv i k
    rw [ps_tr q k i, wv_sym]
theorem i32_1 : (1 : Int32).toInt = 1 := rfl
theorem i32_m1 : (-1 : Int32).toInt = -1 := rfl
theorem mul_w {x y : Int32} (hy : y = 1 ∨ y = -1) (h1 : -20000 ≤ x.toInt) (h2 : x.toInt ≤ 20000) : (x * y).toInt = x.toInt * y.toInt := by
  rw [Int32.toInt_mul]
  rcases hy with rfl | rfl
  · rw [i32_1, Int.bmod_eq_of_le] <;> omega
  · rw [i32_m1, Int.bmod_eq_of_le] <;> omega
def trZ (F : Nat → Int) (n : Nat) : Nat → Int
  | 0 => 0
  | i + 1 => trZ F n i + F i * (wv i n).toInt

def BdP (d : Nat → Int32) : Prop := ∀ k, k < 8 → -9999 ≤ (d k).toInt ∧ (d k).toInt ≤ 9999
theorem tr_P {d : Nat → Int32} (h : BdP d) (n : Nat) : ∀ i : Nat, i ≤ 8 → (trS d n i).toInt = trZ (fun k => (d k).toInt) n i ∧ -(9999 * (i : Int)) ≤ (trS d n i).toInt ∧ (trS d n i).toInt ≤ 9999 * (i : Int)
  | 0, _ => by
    have e : (trS d n 0).toInt = 0 := rfl
    have e2 : trZ (fun k => (d k).toInt) n 0 = 0 := rfl
    rw [e, e2]; omega
  | i + 1, hi => by
    obtain ⟨h0, h1, h2⟩ := tr_P h n i (by omega)
    have hb := h i (by omega)
    have hm := mul_w (wv_pm i n) (show -20000 ≤ (d i).toInt by omega) (show (d i).toInt ≤ 20000 by omega)
    have hw : (wv i n).toInt = 1 ∨ (wv i n).toInt = -1 := by
      rcases wv_pm i n with e | e
      · exact Or.inl (by rw [e]; rfl)
      · exact Or.inr (by rw [e]; rfl)
    have hc : -9999 ≤ (d i * wv i n).toInt ∧ (d i * wv i n).toInt ≤ 9999 := by
      rw [hm]
      rcases hw with e | e <;> rw [e] <;> omega
    have e : (trS d n (i + 1)).toInt = (trS d n i + d i * wv i n).toInt := rfl
    have e2 : trZ (fun k => (d k).toInt) n (i + 1) = trZ (fun k => (d k).toInt) n i + (d i).toInt * (wv i n).toInt := rfl
    have e3 : (trS d n i + d i * wv i n).toInt = (trS d n i).toInt + (d i * wv i n).toInt := by
      rw [Int32.toInt_add, Int.bmod_eq_of_le] <;> omega
    rw [e, e2, e3, hm, h0]
    rw [hm] at hc
    rw [h0] at h1 h2
    refine ⟨rfl, ?_, ?_⟩ <;> omega

def BdD (d : Nat → Int32) : Prop := ∀ k, k < 8 → -20000 ≤ (d k).toInt ∧ (d k).toInt ≤ 20000
theorem tr_D {d : Nat → Int32} (h : BdD d) (n : Nat) : ∀ i : Nat, i ≤ 8 → (trS d n i).toInt = trZ (fun k => (d k).toInt) n i ∧ -(20000 * (i : Int)) ≤ (trS d n i).toInt ∧ (trS d n i).toInt ≤ 20000 * (i : Int)
  | 0, _ => by
    have e : (trS d n 0).toInt = 0 := rfl
    have e2 : trZ (fun k => (d k).toInt) n 0 = 0 := rfl
    rw [e, e2]; omega
  | i + 1, hi => by
    obtain ⟨h0, h1, h2⟩ := tr_D h n i (by omega)
    have hb := h i (by omega)
    have hm := mul_w (wv_pm i n) (show -20000 ≤ (d i).toInt by omega) (show (d i).toInt ≤ 20000 by omega)
    have hw : (wv i n).toInt = 1 ∨ (wv i n).toInt = -1 := by
      rcases wv_pm i n with e | e
      · exact Or.inl (by rw [e]; rfl)
      · exact Or.inr (by rw [e]; rfl)
    have hc : -20000 ≤ (d i * wv i n).toInt ∧ (d i * wv i n).toInt ≤ 20000 := by
      rw [hm]
      rcases hw with e | e <;> rw [e] <;> omega
    have e : (trS d n (i + 1)).toInt = (trS d n i + d i * wv i n).toInt := rfl
    have e2 : trZ (fun k => (d k).toInt) n (i + 1) = trZ (fun k => (d k).toInt) n i + (d i).toInt * (wv i n).toInt := rfl
    have e3 : (trS d n i + d i * wv i n).toInt = (trS d n i).toInt + (d i * wv i n).toInt := by
      rw [Int32.toInt_add, Int.bmod_eq_of_le] <;> omega
    rw [e, e2, e3, hm, h0]
    rw [hm] at hc
    rw [h0] at h1 h2
    refine ⟨rfl, ?_, ?_⟩ <;> omega

theorem bp_d {d : Nat → Int32} (h : BdP d) : BdD d := fun k hk => by have := h k hk; omega
theorem ba_p {d : Nat → Int32} (h : BdA d) : BdP d := fun k hk => by have := h k hk; omega
theorem tr_90 {d : Nat → Int32} (h : BdP d) (n : Nat) : -90000 ≤ (trS d n 8).toInt ∧ (trS d n 8).toInt ≤ 90000 := by
  have := tr_P h n 8 (Nat.le_refl 8)
  omega
theorem di_I {p d : Nat → Int32} (hp : BdP p) (hd : BdA d) {n : Nat} (hn : n < 8) (m : Nat) : (p n - trS d m 8).toInt = (p n).toInt - (trS d m 8).toInt ∧ -10791 ≤ (p n - trS d m 8).toInt ∧ (p n - trS d m 8).toInt ≤ 10791 := by
  have h1 := hp n hn
  have h2 := tr_792 hd m
  have e : (p n - trS d m 8).toInt = (p n).toInt - (trS d m 8).toInt := by
    rw [Int32.toInt_sub, Int.bmod_eq_of_le] <;> omega
  rw [e]
  refine ⟨rfl, ?_, ?_⟩ <;> omega
theorem di_bd {p d : Nat → Int32} (hp : BdP p) (hd : BdA d) : BdD (diF p d) := fun n hn => by
  have h := (di_I hp hd hn n).2
  show -20000 ≤ (p n - trS d n 8).toInt ∧ (p n - trS d n 8).toInt ≤ 20000
  omega
/-- the greatest, the least trace, the law's way -/
def mgS (d : Nat → Int32) : Nat → Int32
  | 0 => -9999
  | i + 1 => if mgS d i < trS d i 8 then trS d i 8 else mgS d i
def mnS (d : Nat → Int32) : Nat → Int32
  | 0 => 9999
  | i + 1 => if trS d i 8 < mnS d i then trS d i 8 else mnS d i
theorem mg_gt {d : Nat → Int32} (h : BdA d) : ∀ i, mgS d (i + 1) = gtS d i
  | 0 => by
    have b := tr_792 h 0
    have e : (-9999 : Int32).toInt = -9999 := rfl
    show (if (-9999 : Int32) < trS d 0 8 then trS d 0 8 else -9999) = trS d 0 8
    rw [if_pos (Int32.lt_iff_toInt_lt.mpr (by omega))]
  | i + 1 => by
    show (if mgS d (i + 1) < trS d (i + 1) 8 then trS d (i + 1) 8 else mgS d (i + 1)) = if gtS d i < trS d (i + 1) 8 then trS d (i + 1) 8 else gtS d i
    rw [mg_gt h i]
theorem mn_lt {d : Nat → Int32} (h : BdA d) : ∀ i, mnS d (i + 1) = ltS d i
  | 0 => by
    have b := tr_792 h 0
    have e : (9999 : Int32).toInt = 9999 := rfl
    show (if trS d 0 8 < (9999 : Int32) then trS d 0 8 else 9999) = trS d 0 8
    rw [if_pos (Int32.lt_iff_toInt_lt.mpr (by omega))]
  | i + 1 => by
    show (if trS d (i + 1) 8 < mnS d (i + 1) then trS d (i + 1) 8 else mnS d (i + 1)) = if trS d (i + 1) 8 < ltS d i then trS d (i + 1) 8 else ltS d i
    rw [mn_lt h i]
def ovL (d : Nat → Int32) : Int32 := if abI (mgS d 8) ≤ abI (mnS d 8) then abI (mnS d 8) else abI (mgS d 8)
theorem ov_law {d : Nat → Int32} (h : BdA d) : ovF d = ovL d - abI (d 0) := by
  have a := gt_792 h 7
  have b := lt_792 h 7
  have c := lt_gt (d := d) 7
  unfold ovF ovL
  rw [mg_gt h 7, mn_lt h 7, rl_ov0 a.1 a.2 b.1 b.2 (by omega)]
/-- the last that is not 0, below i -/
def fdS (q : Nat → Int32) : Nat → Int32
  | 0 => -1
  | i + 1 => if q i = 0 then fdS q i else nI i
theorem cn_tri (q : Nat → Int32) : ∀ i, i ≤ 8 → (cnS q i = 0 ∧ ∀ j, j < i → q j = 0) ∨ (∃ k, k < i ∧ cnS q i = 1 ∧ ¬ q k = 0 ∧ (∀ j, j < i → j ≠ k → q j = 0) ∧ fdS q i = nI k) ∨ (∃ c j1 j2, cnS q i = nI c ∧ 2 ≤ c ∧ c ≤ i ∧ j1 < j2 ∧ j2 < i ∧ ¬ q j1 = 0 ∧ ¬ q j2 = 0)
  | 0, _ => Or.inl ⟨rfl, fun j hj => absurd hj (Nat.not_lt_zero j)⟩
  | i + 1, hi => by
    have e : cnS q (i + 1) = cnS q i + (if q i = 0 then 0 else 1) := rfl
    have ef : fdS q (i + 1) = if q i = 0 then fdS q i else nI i := rfl
    by_cases c : q i = 0
    · rw [if_pos c] at e ef
      have e0 : cnS q (i + 1) = cnS q i := by rw [e]; exact Int32.add_zero _
      rcases cn_tri q i (by omega) with ⟨a, b⟩ | ⟨k, hk, a, b, d, f⟩ | ⟨cc, j1, j2, a, b, d, f, g, h1, h2⟩
      · refine Or.inl ⟨e0.trans a, fun j hj => ?_⟩
        rcases Nat.lt_or_ge j i with h | h
        · exact b j h
        · rw [show j = i by omega]; exact c
      · refine Or.inr (Or.inl ⟨k, by omega, e0.trans a, b, fun j hj hne => ?_, ef.trans f⟩)
        rcases Nat.lt_or_ge j i with h | h
        · exact d j h hne
        · rw [show j = i by omega]; exact c
      · exact Or.inr (Or.inr ⟨cc, j1, j2, e0.trans a, b, by omega, f, by omega, h1, h2⟩)
    · rw [if_neg c] at e ef
      rcases cn_tri q i (by omega) with ⟨a, b⟩ | ⟨k, hk, a, b, d, f⟩ | ⟨cc, j1, j2, a, b, d, f, g, h1, h2⟩
      · exact Or.inr (Or.inl ⟨i, by omega, by rw [e, a]; rfl, c, fun j hj hne => b j (by omega), ef⟩)
      · exact Or.inr (Or.inr ⟨2, k, i, by rw [e, a]; rfl, by omega, by omega, hk, by omega, b, c⟩)
      · exact Or.inr (Or.inr ⟨cc + 1, j1, j2, by rw [e, a]; exact nI_add cc 1, by omega, by omega, f, by omega, h1, h2⟩)
theorem id_all {f : Nat → Int32} {x : Int32} {k : Nat} (h : ¬ idS f x k 8 = 0) : ∀ i, i < 8 → f i = x * wv k i := fun i hi =>
  Decidable.byContradiction fun hn => h (id_f hi hn).symm
theorem id_of {f : Nat → Int32} {x : Int32} {k : Nat} (h : ∀ i, i < 8 → f i = x * wv k i) : ∀ i, i ≤ 8 → idS f x k i = 1
  | 0, _ => rfl
  | i + 1, hi => id_t (id_of h i (by omega)) (h i (by omega))
theorem fl_first (P : Nat → Int32) : ∀ n i, (flS P n i = -1 ∧ ∀ j, i ≤ j → j < i + n → P j = 0) ∨ (∃ k, i ≤ k ∧ k < i + n ∧ ¬ P k = 0 ∧ flS P n i = nI k)
  | 0, i => Or.inl ⟨rfl, fun j h1 h2 => absurd h2 (by omega)⟩
  | n + 1, i => by
    have e : flS P (n + 1) i = if P i = 0 then flS P n (i + 1) else nI i := rfl
    by_cases c : P i = 0
    · rw [if_pos c] at e
      rcases fl_first P n (i + 1) with ⟨a, b⟩ | ⟨k, h1, h2, h3, h4⟩
      · refine Or.inl ⟨e.trans a, fun j h1 h2 => ?_⟩
        by_cases h : j = i
        · rw [h]; exact c
        · exact b j (by omega) (by omega)
      · exact Or.inr ⟨k, by omega, by omega, h3, e.trans h4⟩
    · rw [if_neg c] at e
      exact Or.inr ⟨i, Nat.le_refl i, by omega, c, e⟩

theorem tz_0 (Z : Nat → Int) : trZ Z 0 8 = Z 0 + Z 1 + Z 2 + Z 3 + Z 4 + Z 5 + Z 6 + Z 7 := by
  simp only [trZ]
  rw [show (wv 0 0).toInt = 1 from by decide +kernel]; rw [show (wv 1 0).toInt = 1 from by decide +kernel]; rw [show (wv 2 0).toInt = 1 from by decide +kernel]; rw [show (wv 3 0).toInt = 1 from by decide +kernel]; rw [show (wv 4 0).toInt = 1 from by decide +kernel]; rw [show (wv 5 0).toInt = 1 from by decide +kernel]; rw [show (wv 6 0).toInt = 1 from by decide +kernel]; rw [show (wv 7 0).toInt = 1 from by decide +kernel]
  omega
theorem tz_1 (Z : Nat → Int) : trZ Z 1 8 = Z 0 - Z 1 + Z 2 - Z 3 + Z 4 - Z 5 + Z 6 - Z 7 := by
  simp only [trZ]
  rw [show (wv 0 1).toInt = 1 from by decide +kernel]; rw [show (wv 1 1).toInt = -1 from by decide +kernel]; rw [show (wv 2 1).toInt = 1 from by decide +kernel]; rw [show (wv 3 1).toInt = -1 from by decide +kernel]; rw [show (wv 4 1).toInt = 1 from by decide +kernel]; rw [show (wv 5 1).toInt = -1 from by decide +kernel]; rw [show (wv 6 1).toInt = 1 from by decide +kernel]; rw [show (wv 7 1).toInt = -1 from by decide +kernel]
  omega
theorem tz_2 (Z : Nat → Int) : trZ Z 2 8 = Z 0 + Z 1 - Z 2 - Z 3 + Z 4 + Z 5 - Z 6 - Z 7 := by
  simp only [trZ]
  rw [show (wv 0 2).toInt = 1 from by decide +kernel]; rw [show (wv 1 2).toInt = 1 from by decide +kernel]; rw [show (wv 2 2).toInt = -1 from by decide +kernel]; rw [show (wv 3 2).toInt = -1 from by decide +kernel]; rw [show (wv 4 2).toInt = 1 from by decide +kernel]; rw [show (wv 5 2).toInt = 1 from by decide +kernel]; rw [show (wv 6 2).toInt = -1 from by decide +kernel]; rw [show (wv 7 2).toInt = -1 from by decide +kernel]
  omega
theorem tz_3 (Z : Nat → Int) : trZ Z 3 8 = Z 0 - Z 1 - Z 2 + Z 3 + Z 4 - Z 5 - Z 6 + Z 7 := by
  simp only [trZ]
  rw [show (wv 0 3).toInt = 1 from by decide +kernel]; rw [show (wv 1 3).toInt = -1 from by decide +kernel]; rw [show (wv 2 3).toInt = -1 from by decide +kernel]; rw [show (wv 3 3).toInt = 1 from by decide +kernel]; rw [show (wv 4 3).toInt = 1 from by decide +kernel]; rw [show (wv 5 3).toInt = -1 from by decide +kernel]; rw [show (wv 6 3).toInt = -1 from by decide +kernel]; rw [show (wv 7 3).toInt = 1 from by decide +kernel]
  omega
theorem tz_4 (Z : Nat → Int) : trZ Z 4 8 = Z 0 + Z 1 + Z 2 + Z 3 - Z 4 - Z 5 - Z 6 - Z 7 := by
  simp only [trZ]
  rw [show (wv 0 4).toInt = 1 from by decide +kernel]; rw [show (wv 1 4).toInt = 1 from by decide +kernel]; rw [show (wv 2 4).toInt = 1 from by decide +kernel]; rw [show (wv 3 4).toInt = 1 from by decide +kernel]; rw [show (wv 4 4).toInt = -1 from by decide +kernel]; rw [show (wv 5 4).toInt = -1 from by decide +kernel]; rw [show (wv 6 4).toInt = -1 from by decide +kernel]; rw [show (wv 7 4).toInt = -1 from by decide +kernel]
  omega
theorem tz_5 (Z : Nat → Int) : trZ Z 5 8 = Z 0 - Z 1 + Z 2 - Z 3 - Z 4 + Z 5 - Z 6 + Z 7 := by
  simp only [trZ]
  rw [show (wv 0 5).toInt = 1 from by decide +kernel]; rw [show (wv 1 5).toInt = -1 from by decide +kernel]; rw [show (wv 2 5).toInt = 1 from by decide +kernel]; rw [show (wv 3 5).toInt = -1 from by decide +kernel]; rw [show (wv 4 5).toInt = -1 from by decide +kernel]; rw [show (wv 5 5).toInt = 1 from by decide +kernel]; rw [show (wv 6 5).toInt = -1 from by decide +kernel]; rw [show (wv 7 5).toInt = 1 from by decide +kernel]
  omega
theorem tz_6 (Z : Nat → Int) : trZ Z 6 8 = Z 0 + Z 1 - Z 2 - Z 3 - Z 4 - Z 5 + Z 6 + Z 7 := by
  simp only [trZ]
  rw [show (wv 0 6).toInt = 1 from by decide +kernel]; rw [show (wv 1 6).toInt = 1 from by decide +kernel]; rw [show (wv 2 6).toInt = -1 from by decide +kernel]; rw [show (wv 3 6).toInt = -1 from by decide +kernel]; rw [show (wv 4 6).toInt = -1 from by decide +kernel]; rw [show (wv 5 6).toInt = -1 from by decide +kernel]; rw [show (wv 6 6).toInt = 1 from by decide +kernel]; rw [show (wv 7 6).toInt = 1 from by decide +kernel]
  omega
theorem tz_7 (Z : Nat → Int) : trZ Z 7 8 = Z 0 - Z 1 - Z 2 + Z 3 - Z 4 + Z 5 + Z 6 - Z 7 := by
  simp only [trZ]
  rw [show (wv 0 7).toInt = 1 from by decide +kernel]; rw [show (wv 1 7).toInt = -1 from by decide +kernel]; rw [show (wv 2 7).toInt = -1 from by decide +kernel]; rw [show (wv 3 7).toInt = 1 from by decide +kernel]; rw [show (wv 4 7).toInt = -1 from by decide +kernel]; rw [show (wv 5 7).toInt = 1 from by decide +kernel]; rw [show (wv 6 7).toInt = 1 from by decide +kernel]; rw [show (wv 7 7).toInt = -1 from by decide +kernel]
  omega
theorem wkA_0 {Z : Nat → Int} (h : ∀ j, j < 8 → j ≠ 0 → trZ Z j 8 = 0) : (∀ i, i < 8 → Z i = Z 0 * (wv 0 i).toInt) ∧ 8 * Z 0 = trZ Z 0 8 := by
  have h1 := h 1 (by decide) (by decide)
  rw [tz_1] at h1
  have h2 := h 2 (by decide) (by decide)
  rw [tz_2] at h2
  have h3 := h 3 (by decide) (by decide)
  rw [tz_3] at h3
  have h4 := h 4 (by decide) (by decide)
  rw [tz_4] at h4
  have h5 := h 5 (by decide) (by decide)
  rw [tz_5] at h5
  have h6 := h 6 (by decide) (by decide)
  rw [tz_6] at h6
  have h7 := h 7 (by decide) (by decide)
  rw [tz_7] at h7
  refine ⟨all8 (by rw [show (wv 0 0).toInt = 1 from by decide +kernel]; omega) (by rw [show (wv 0 1).toInt = 1 from by decide +kernel]; omega) (by rw [show (wv 0 2).toInt = 1 from by decide +kernel]; omega) (by rw [show (wv 0 3).toInt = 1 from by decide +kernel]; omega) (by rw [show (wv 0 4).toInt = 1 from by decide +kernel]; omega) (by rw [show (wv 0 5).toInt = 1 from by decide +kernel]; omega) (by rw [show (wv 0 6).toInt = 1 from by decide +kernel]; omega) (by rw [show (wv 0 7).toInt = 1 from by decide +kernel]; omega), by rw [tz_0]; omega⟩
theorem wkB_0 {Z : Nat → Int} (h : ∀ i, i < 8 → Z i = Z 0 * (wv 0 i).toInt) : ∀ j, j < 8 → j ≠ 0 → trZ Z j 8 = 0 := by
  have h1 := h 1 (by decide)
  rw [show (wv 0 1).toInt = 1 from by decide +kernel] at h1
  have h2 := h 2 (by decide)
  rw [show (wv 0 2).toInt = 1 from by decide +kernel] at h2
  have h3 := h 3 (by decide)
  rw [show (wv 0 3).toInt = 1 from by decide +kernel] at h3
  have h4 := h 4 (by decide)
  rw [show (wv 0 4).toInt = 1 from by decide +kernel] at h4
  have h5 := h 5 (by decide)
  rw [show (wv 0 5).toInt = 1 from by decide +kernel] at h5
  have h6 := h 6 (by decide)
  rw [show (wv 0 6).toInt = 1 from by decide +kernel] at h6
  have h7 := h 7 (by decide)
  rw [show (wv 0 7).toInt = 1 from by decide +kernel] at h7
  refine all8 (fun hne => absurd rfl hne) (fun hne => by rw [tz_1]; omega) (fun hne => by rw [tz_2]; omega) (fun hne => by rw [tz_3]; omega) (fun hne => by rw [tz_4]; omega) (fun hne => by rw [tz_5]; omega) (fun hne => by rw [tz_6]; omega) (fun hne => by rw [tz_7]; omega)
theorem wkA_1 {Z : Nat → Int} (h : ∀ j, j < 8 → j ≠ 1 → trZ Z j 8 = 0) : (∀ i, i < 8 → Z i = Z 0 * (wv 1 i).toInt) ∧ 8 * Z 0 = trZ Z 1 8 := by
  have h0 := h 0 (by decide) (by decide)
  rw [tz_0] at h0
  have h2 := h 2 (by decide) (by decide)
  rw [tz_2] at h2
  have h3 := h 3 (by decide) (by decide)
  rw [tz_3] at h3
  have h4 := h 4 (by decide) (by decide)
  rw [tz_4] at h4
  have h5 := h 5 (by decide) (by decide)
  rw [tz_5] at h5
  have h6 := h 6 (by decide) (by decide)
  rw [tz_6] at h6
  have h7 := h 7 (by decide) (by decide)
  rw [tz_7] at h7
  refine ⟨all8 (by rw [show (wv 1 0).toInt = 1 from by decide +kernel]; omega) (by rw [show (wv 1 1).toInt = -1 from by decide +kernel]; omega) (by rw [show (wv 1 2).toInt = 1 from by decide +kernel]; omega) (by rw [show (wv 1 3).toInt = -1 from by decide +kernel]; omega) (by rw [show (wv 1 4).toInt = 1 from by decide +kernel]; omega) (by rw [show (wv 1 5).toInt = -1 from by decide +kernel]; omega) (by rw [show (wv 1 6).toInt = 1 from by decide +kernel]; omega) (by rw [show (wv 1 7).toInt = -1 from by decide +kernel]; omega), by rw [tz_1]; omega⟩
theorem wkB_1 {Z : Nat → Int} (h : ∀ i, i < 8 → Z i = Z 0 * (wv 1 i).toInt) : ∀ j, j < 8 → j ≠ 1 → trZ Z j 8 = 0 := by
  have h1 := h 1 (by decide)
  rw [show (wv 1 1).toInt = -1 from by decide +kernel] at h1
  have h2 := h 2 (by decide)
  rw [show (wv 1 2).toInt = 1 from by decide +kernel] at h2
  have h3 := h 3 (by decide)
  rw [show (wv 1 3).toInt = -1 from by decide +kernel] at h3
  have h4 := h 4 (by decide)
  rw [show (wv 1 4).toInt = 1 from by decide +kernel] at h4
  have h5 := h 5 (by decide)
  rw [show (wv 1 5).toInt = -1 from by decide +kernel] at h5
  have h6 := h 6 (by decide)
  rw [show (wv 1 6).toInt = 1 from by decide +kernel] at h6
  have h7 := h 7 (by decide)
  rw [show (wv 1 7).toInt = -1 from by decide +kernel] at h7
  refine all8 (fun hne => by rw [tz_0]; omega) (fun hne => absurd rfl hne) (fun hne => by rw [tz_2]; omega) (fun hne => by rw [tz_3]; omega) (fun hne => by rw [tz_4]; omega) (fun hne => by rw [tz_5]; omega) (fun hne => by rw [tz_6]; omega) (fun hne => by rw [tz_7]; omega)
theorem wkA_2 {Z : Nat → Int} (h : ∀ j, j < 8 → j ≠ 2 → trZ Z j 8 = 0) : (∀ i, i < 8 → Z i = Z 0 * (wv 2 i).toInt) ∧ 8 * Z 0 = trZ Z 2 8 := by
  have h0 := h 0 (by decide) (by decide)
  rw [tz_0] at h0
  have h1 := h 1 (by decide) (by decide)
  rw [tz_1] at h1
  have h3 := h 3 (by decide) (by decide)
  rw [tz_3] at h3
  have h4 := h 4 (by decide) (by decide)
  rw [tz_4] at h4
  have h5 := h 5 (by decide) (by decide)
  rw [tz_5] at h5
  have h6 := h 6 (by decide) (by decide)
  rw [tz_6] at h6
  have h7 := h 7 (by decide) (by decide)
  rw [tz_7] at h7
  refine ⟨all8 (by rw [show (wv 2 0).toInt = 1 from by decide +kernel]; omega) (by rw [show (wv 2 1).toInt = 1 from by decide +kernel]; omega) (by rw [show (wv 2 2).toInt = -1 from by decide +kernel]; omega) (by rw [show (wv 2 3).toInt = -1 from by decide +kernel]; omega) (by rw [show (wv 2 4).toInt = 1 from by decide +kernel]; omega) (by rw [show (wv 2 5).toInt = 1 from by decide +kernel]; omega) (by rw [show (wv 2 6).toInt = -1 from by decide +kernel]; omega) (by rw [show (wv 2 7).toInt = -1 from by decide +kernel]; omega), by rw [tz_2]; omega⟩
theorem wkB_2 {Z : Nat → Int} (h : ∀ i, i < 8 → Z i = Z 0 * (wv 2 i).toInt) : ∀ j, j < 8 → j ≠ 2 → trZ Z j 8 = 0 := by
  have h1 := h 1 (by decide)
  rw [show (wv 2 1).toInt = 1 from by decide +kernel] at h1
  have h2 := h 2 (by decide)
  rw [show (wv 2 2).toInt = -1 from by decide +kernel] at h2
  have h3 := h 3 (by decide)
  rw [show (wv 2 3).toInt = -1 from by decide +kernel] at h3
  have h4 := h 4 (by decide)
  rw [show (wv 2 4).toInt = 1 from by decide +kernel] at h4
  have h5 := h 5 (by decide)
  rw [show (wv 2 5).toInt = 1 from by decide +kernel] at h5
  have h6 := h 6 (by decide)
  rw [show (wv 2 6).toInt = -1 from by decide +kernel] at h6
  have h7 := h 7 (by decide)
  rw [show (wv 2 7).toInt = -1 from by decide +kernel] at h7
  refine all8 (fun hne => by rw [tz_0]; omega) (fun hne => by rw [tz_1]; omega) (fun hne => absurd rfl hne) (fun hne => by rw [tz_3]; omega) (fun hne => by rw [tz_4]; omega) (fun hne => by rw [tz_5]; omega) (fun hne => by rw [tz_6]; omega) (fun hne => by rw [tz_7]; omega)
theorem wkA_3 {Z : Nat → Int} (h : ∀ j, j < 8 → j ≠ 3 → trZ Z j 8 = 0) : (∀ i, i < 8 → Z i = Z 0 * (wv 3 i).toInt) ∧ 8 * Z 0 = trZ Z 3 8 := by
  have h0 := h 0 (by decide) (by decide)
  rw [tz_0] at h0
  have h1 := h 1 (by decide) (by decide)
  rw [tz_1] at h1
  have h2 := h 2 (by decide) (by decide)
  rw [tz_2] at h2
  have h4 := h 4 (by decide) (by decide)
  rw [tz_4] at h4
  have h5 := h 5 (by decide) (by decide)
  rw [tz_5] at h5
  have h6 := h 6 (by decide) (by decide)
  rw [tz_6] at h6
  have h7 := h 7 (by decide) (by decide)
  rw [tz_7] at h7
  refine ⟨all8 (by rw [show (wv 3 0).toInt = 1 from by decide +kernel]; omega) (by rw [show (wv 3 1).toInt = -1 from by decide +kernel]; omega) (by rw [show (wv 3 2).toInt = -1 from by decide +kernel]; omega) (by rw [show (wv 3 3).toInt = 1 from by decide +kernel]; omega) (by rw [show (wv 3 4).toInt = 1 from by decide +kernel]; omega) (by rw [show (wv 3 5).toInt = -1 from by decide +kernel]; omega) (by rw [show (wv 3 6).toInt = -1 from by decide +kernel]; omega) (by rw [show (wv 3 7).toInt = 1 from by decide +kernel]; omega), by rw [tz_3]; omega⟩
theorem wkB_3 {Z : Nat → Int} (h : ∀ i, i < 8 → Z i = Z 0 * (wv 3 i).toInt) : ∀ j, j < 8 → j ≠ 3 → trZ Z j 8 = 0 := by
  have h1 := h 1 (by decide)
  rw [show (wv 3 1).toInt = -1 from by decide +kernel] at h1
  have h2 := h 2 (by decide)
  rw [show (wv 3 2).toInt = -1 from by decide +kernel] at h2
  have h3 := h 3 (by decide)
  rw [show (wv 3 3).toInt = 1 from by decide +kernel] at h3
  have h4 := h 4 (by decide)
  rw [show (wv 3 4).toInt = 1 from by decide +kernel] at h4
  have h5 := h 5 (by decide)
  rw [show (wv 3 5).toInt = -1 from by decide +kernel] at h5
  have h6 := h 6 (by decide)
  rw [show (wv 3 6).toInt = -1 from by decide +kernel] at h6
  have h7 := h 7 (by decide)
  rw [show (wv 3 7).toInt = 1 from by decide +kernel] at h7
  refine all8 (fun hne => by rw [tz_0]; omega) (fun hne => by rw [tz_1]; omega) (fun hne => by rw [tz_2]; omega) (fun hne => absurd rfl hne) (fun hne => by rw [tz_4]; omega) (fun hne => by rw [tz_5]; omega) (fun hne => by rw [tz_6]; omega) (fun hne => by rw [tz_7]; omega)
theorem wkA_4 {Z : Nat → Int} (h : ∀ j, j < 8 → j ≠ 4 → trZ Z j 8 = 0) : (∀ i, i < 8 → Z i = Z 0 * (wv 4 i).toInt) ∧ 8 * Z 0 = trZ Z 4 8 := by
  have h0 := h 0 (by decide) (by decide)
  rw [tz_0] at h0
  have h1 := h 1 (by decide) (by decide)
  rw [tz_1] at h1
  have h2 := h 2 (by decide) (by decide)
  rw [tz_2] at h2
  have h3 := h 3 (by decide) (by decide)
  rw [tz_3] at h3
  have h5 := h 5 (by decide) (by decide)
  rw [tz_5] at h5
  have h6 := h 6 (by decide) (by decide)
  rw [tz_6] at h6
  have h7 := h 7 (by decide) (by decide)
  rw [tz_7] at h7
  refine ⟨all8 (by rw [show (wv 4 0).toInt = 1 from by decide +kernel]; omega) (by rw [show (wv 4 1).toInt = 1 from by decide +kernel]; omega) (by rw [show (wv 4 2).toInt = 1 from by decide +kernel]; omega) (by rw [show (wv 4 3).toInt = 1 from by decide +kernel]; omega) (by rw [show (wv 4 4).toInt = -1 from by decide +kernel]; omega) (by rw [show (wv 4 5).toInt = -1 from by decide +kernel]; omega) (by rw [show (wv 4 6).toInt = -1 from by decide +kernel]; omega) (by rw [show (wv 4 7).toInt = -1 from by decide +kernel]; omega), by rw [tz_4]; omega⟩
theorem wkB_4 {Z : Nat → Int} (h : ∀ i, i < 8 → Z i = Z 0 * (wv 4 i).toInt) : ∀ j, j < 8 → j ≠ 4 → trZ Z j 8 = 0 := by
  have h1 := h 1 (by decide)
  rw [show (wv 4 1).toInt = 1 from by decide +kernel] at h1
  have h2 := h 2 (by decide)
  rw [show (wv 4 2).toInt = 1 from by decide +kernel] at h2
  have h3 := h 3 (by decide)
  rw [show (wv 4 3).toInt = 1 from by decide +kernel] at h3
  have h4 := h 4 (by decide)
  rw [show (wv 4 4).toInt = -1 from by decide +kernel] at h4
  have h5 := h 5 (by decide)
  rw [show (wv 4 5).toInt = -1 from by decide +kernel] at h5
  have h6 := h 6 (by decide)
  rw [show (wv 4 6).toInt = -1 from by decide +kernel] at h6
  have h7 := h 7 (by decide)
  rw [show (wv 4 7).toInt = -1 from by decide +kernel] at h7
  refine all8 (fun hne => by rw [tz_0]; omega) (fun hne => by rw [tz_1]; omega) (fun hne => by rw [tz_2]; omega) (fun hne => by rw [tz_3]; omega) (fun hne => absurd rfl hne) (fun hne => by rw [tz_5]; omega) (fun hne => by rw [tz_6]; omega) (fun hne => by rw [tz_7]; omega)
theorem wkA_5 {Z : Nat → Int} (h : ∀ j, j < 8 → j ≠ 5 → trZ Z j 8 = 0) : (∀ i, i < 8 → Z i = Z 0 * (wv 5 i).toInt) ∧ 8 * Z 0 = trZ Z 5 8 := by
  have h0 := h 0 (by decide) (by decide)
  rw [tz_0] at h0
  have h1 := h 1 (by decide) (by decide)
  rw [tz_1] at h1
  have h2 := h 2 (by decide) (by decide)
  rw [tz_2] at h2
  have h3 := h 3 (by decide) (by decide)
  rw [tz_3] at h3
  have h4 := h 4 (by decide) (by decide)
  rw [tz_4] at h4
  have h6 := h 6 (by decide) (by decide)
  rw [tz_6] at h6
  have h7 := h 7 (by decide) (by decide)
  rw [tz_7] at h7
  refine ⟨all8 (by rw [show (wv 5 0).toInt = 1 from by decide +kernel]; omega) (by rw [show (wv 5 1).toInt = -1 from by decide +kernel]; omega) (by rw [show (wv 5 2).toInt = 1 from by decide +kernel]; omega) (by rw [show (wv 5 3).toInt = -1 from by decide +kernel]; omega) (by rw [show (wv 5 4).toInt = -1 from by decide +kernel]; omega) (by rw [show (wv 5 5).toInt = 1 from by decide +kernel]; omega) (by rw [show (wv 5 6).toInt = -1 from by decide +kernel]; omega) (by rw [show (wv 5 7).toInt = 1 from by decide +kernel]; omega), by rw [tz_5]; omega⟩
theorem wkB_5 {Z : Nat → Int} (h : ∀ i, i < 8 → Z i = Z 0 * (wv 5 i).toInt) : ∀ j, j < 8 → j ≠ 5 → trZ Z j 8 = 0 := by
  have h1 := h 1 (by decide)
  rw [show (wv 5 1).toInt = -1 from by decide +kernel] at h1
  have h2 := h 2 (by decide)
  rw [show (wv 5 2).toInt = 1 from by decide +kernel] at h2
  have h3 := h 3 (by decide)
  rw [show (wv 5 3).toInt = -1 from by decide +kernel] at h3
  have h4 := h 4 (by decide)
  rw [show (wv 5 4).toInt = -1 from by decide +kernel] at h4
  have h5 := h 5 (by decide)
  rw [show (wv 5 5).toInt = 1 from by decide +kernel] at h5
  have h6 := h 6 (by decide)
  rw [show (wv 5 6).toInt = -1 from by decide +kernel] at h6
  have h7 := h 7 (by decide)
  rw [show (wv 5 7).toInt = 1 from by decide +kernel] at h7
  refine all8 (fun hne => by rw [tz_0]; omega) (fun hne => by rw [tz_1]; omega) (fun hne => by rw [tz_2]; omega) (fun hne => by rw [tz_3]; omega) (fun hne => by rw [tz_4]; omega) (fun hne => absurd rfl hne) (fun hne => by rw [tz_6]; omega) (fun hne => by rw [tz_7]; omega)
theorem wkA_6 {Z : Nat → Int} (h : ∀ j, j < 8 → j ≠ 6 → trZ Z j 8 = 0) : (∀ i, i < 8 → Z i = Z 0 * (wv 6 i).toInt) ∧ 8 * Z 0 = trZ Z 6 8 := by
  have h0 := h 0 (by decide) (by decide)
  rw [tz_0] at h0
  have h1 := h 1 (by decide) (by decide)
  rw [tz_1] at h1
  have h2 := h 2 (by decide) (by decide)
  rw [tz_2] at h2
  have h3 := h 3 (by decide) (by decide)
  rw [tz_3] at h3
  have h4 := h 4 (by decide) (by decide)
  rw [tz_4] at h4
  have h5 := h 5 (by decide) (by decide)
  rw [tz_5] at h5
  have h7 := h 7 (by decide) (by decide)
  rw [tz_7] at h7
  refine ⟨all8 (by rw [show (wv 6 0).toInt = 1 from by decide +kernel]; omega) (by rw [show (wv 6 1).toInt = 1 from by decide +kernel]; omega) (by rw [show (wv 6 2).toInt = -1 from by decide +kernel]; omega) (by rw [show (wv 6 3).toInt = -1 from by decide +kernel]; omega) (by rw [show (wv 6 4).toInt = -1 from by decide +kernel]; omega) (by rw [show (wv 6 5).toInt = -1 from by decide +kernel]; omega) (by rw [show (wv 6 6).toInt = 1 from by decide +kernel]; omega) (by rw [show (wv 6 7).toInt = 1 from by decide +kernel]; omega), by rw [tz_6]; omega⟩
theorem wkB_6 {Z : Nat → Int} (h : ∀ i, i < 8 → Z i = Z 0 * (wv 6 i).toInt) : ∀ j, j < 8 → j ≠ 6 → trZ Z j 8 = 0 := by
  have h1 := h 1 (by decide)
  rw [show (wv 6 1).toInt = 1 from by decide +kernel] at h1
  have h2 := h 2 (by decide)
  rw [show (wv 6 2).toInt = -1 from by decide +kernel] at h2
  have h3 := h 3 (by decide)
  rw [show (wv 6 3).toInt = -1 from by decide +kernel] at h3
  have h4 := h 4 (by decide)
  rw [show (wv 6 4).toInt = -1 from by decide +kernel] at h4
  have h5 := h 5 (by decide)
  rw [show (wv 6 5).toInt = -1 from by decide +kernel] at h5
  have h6 := h 6 (by decide)
  rw [show (wv 6 6).toInt = 1 from by decide +kernel] at h6
  have h7 := h 7 (by decide)
  rw [show (wv 6 7).toInt = 1 from by decide +kernel] at h7
  refine all8 (fun hne => by rw [tz_0]; omega) (fun hne => by rw [tz_1]; omega) (fun hne => by rw [tz_2]; omega) (fun hne => by rw [tz_3]; omega) (fun hne => by rw [tz_4]; omega) (fun hne => by rw [tz_5]; omega) (fun hne => absurd rfl hne) (fun hne => by rw [tz_7]; omega)
theorem wkA_7 {Z : Nat → Int} (h : ∀ j, j < 8 → j ≠ 7 → trZ Z j 8 = 0) : (∀ i, i < 8 → Z i = Z 0 * (wv 7 i).toInt) ∧ 8 * Z 0 = trZ Z 7 8 := by
  have h0 := h 0 (by decide) (by decide)
  rw [tz_0] at h0
  have h1 := h 1 (by decide) (by decide)
  rw [tz_1] at h1
  have h2 := h 2 (by decide) (by decide)
  rw [tz_2] at h2
  have h3 := h 3 (by decide) (by decide)
  rw [tz_3] at h3
  have h4 := h 4 (by decide) (by decide)
  rw [tz_4] at h4
  have h5 := h 5 (by decide) (by decide)
  rw [tz_5] at h5
  have h6 := h 6 (by decide) (by decide)
  rw [tz_6] at h6
  refine ⟨all8 (by rw [show (wv 7 0).toInt = 1 from by decide +kernel]; omega) (by rw [show (wv 7 1).toInt = -1 from by decide +kernel]; omega) (by rw [show (wv 7 2).toInt = -1 from by decide +kernel]; omega) (by rw [show (wv 7 3).toInt = 1 from by decide +kernel]; omega) (by rw [show (wv 7 4).toInt = -1 from by decide +kernel]; omega) (by rw [show (wv 7 5).toInt = 1 from by decide +kernel]; omega) (by rw [show (wv 7 6).toInt = 1 from by decide +kernel]; omega) (by rw [show (wv 7 7).toInt = -1 from by decide +kernel]; omega), by rw [tz_7]; omega⟩
theorem wkB_7 {Z : Nat → Int} (h : ∀ i, i < 8 → Z i = Z 0 * (wv 7 i).toInt) : ∀ j, j < 8 → j ≠ 7 → trZ Z j 8 = 0 := by
  have h1 := h 1 (by decide)
  rw [show (wv 7 1).toInt = -1 from by decide +kernel] at h1
  have h2 := h 2 (by decide)
  rw [show (wv 7 2).toInt = -1 from by decide +kernel] at h2
  have h3 := h 3 (by decide)
  rw [show (wv 7 3).toInt = 1 from by decide +kernel] at h3
  have h4 := h 4 (by decide)
  rw [show (wv 7 4).toInt = -1 from by decide +kernel] at h4
  have h5 := h 5 (by decide)
  rw [show (wv 7 5).toInt = 1 from by decide +kernel] at h5
  have h6 := h 6 (by decide)
  rw [show (wv 7 6).toInt = 1 from by decide +kernel] at h6
  have h7 := h 7 (by decide)
  rw [show (wv 7 7).toInt = -1 from by decide +kernel] at h7
  refine all8 (fun hne => by rw [tz_0]; omega) (fun hne => by rw [tz_1]; omega) (fun hne => by rw [tz_2]; omega) (fun hne => by rw [tz_3]; omega) (fun hne => by rw [tz_4]; omega) (fun hne => by rw [tz_5]; omega) (fun hne => by rw [tz_6]; omega) (fun hne => absurd rfl hne)
theorem wkA {Z : Nat → Int} {k : Nat} (hk : k < 8) : (∀ j, j < 8 → j ≠ k → trZ Z j 8 = 0) → (∀ i, i < 8 → Z i = Z 0 * (wv k i).toInt) ∧ 8 * Z 0 = trZ Z k 8 := all8 (P := fun k => (∀ j, j < 8 → j ≠ k → trZ Z j 8 = 0) → (∀ i, i < 8 → Z i = Z 0 * (wv k i).toInt) ∧ 8 * Z 0 = trZ Z k 8) wkA_0 wkA_1 wkA_2 wkA_3 wkA_4 wkA_5 wkA_6 wkA_7 k hk
theorem wkB {Z : Nat → Int} {k : Nat} (hk : k < 8) : (∀ i, i < 8 → Z i = Z 0 * (wv k i).toInt) → ∀ j, j < 8 → j ≠ k → trZ Z j 8 = 0 := all8 (P := fun k => (∀ i, i < 8 → Z i = Z 0 * (wv k i).toInt) → ∀ j, j < 8 → j ≠ k → trZ Z j 8 = 0) wkB_0 wkB_1 wkB_2 wkB_3 wkB_4 wkB_5 wkB_6 wkB_7 k hk
theorem i32_z {x : Int32} : x = 0 ↔ x.toInt = 0 := ⟨fun h => by rw [h]; rfl, fun h => Int32.toInt_inj.mp (by rw [h]; rfl)⟩
/-- the lost wheel: the class's way and the law's -/
theorem fl_law {f : Nat → Int32} (h : BdD f) : flF f = if cnS (fun n => trS f n 8) 8 = 1 then fdS (fun n => trS f n 8) 8 else -1 := by
  obtain ⟨Z, hZ⟩ : ∃ Z : Nat → Int, Z = fun k => (f k).toInt := ⟨_, rfl⟩
  have hq : ∀ n, trS f n 8 = 0 ↔ trZ Z n 8 = 0 := fun n => by rw [i32_z, (tr_D h n 8 (Nat.le_refl 8)).1, hZ]
  have hf : ∀ k, (f k).toInt = Z k := fun k => by rw [hZ]
  have hB : ∀ k, k < 8 → (∀ i, i < 8 → f i = f 0 * wv k i) → ∀ j, j < 8 → j ≠ k → trS f j 8 = 0 := fun k hk hi j hj hne => by
    refine (hq j).mpr (wkB hk (fun i hi2 => ?_) j hj hne)
    have b0 := h 0 (by decide)
    rw [← hf, ← hf, hi i hi2]
    have e := mul_w (wv_pm k i) b0.1 b0.2
    exact e
  have hne : ∀ k, k < 8 → ¬ f 0 = 0 → ¬ idS f (f 0) k 8 = 0 → ∀ j, j < 8 → j ≠ k → trS f j 8 = 0 := fun k hk _ hi => hB k hk (id_all hi)
  unfold flF
  rcases cn_tri (fun n => trS f n 8) 8 (Nat.le_refl 8) with ⟨a, b⟩ | ⟨k, hk, a, b, d, e⟩ | ⟨c, j1, j2, a, b, d, g, g2, h1, h2⟩
  · have z : ∀ n, n < 8 → trZ Z n 8 = 0 := fun n hn => (hq n).mp (b n hn)
    have e0 := z 0 (by decide)
    have w := (wkA (Z := Z) (k := 0) (by decide) (fun j hj _ => z j hj)).2
    have f0 : f 0 = 0 := i32_z.mpr (by rw [hf]; omega)
    rw [if_pos f0, a, if_neg (by decide)]
  · have w := wkA (Z := Z) hk (fun j hj hne => (hq j).mp (d j hj hne))
    have hk0 : ¬ trZ Z k 8 = 0 := fun h0 => b ((hq k).mpr h0)
    have f0 : ¬ f 0 = 0 := fun h0 => hk0 (by rw [← w.2]; have := i32_z.mp h0; rw [hf] at this; omega)
    have b0 := h 0 (by decide)
    have hall : ∀ i, i < 8 → f i = f 0 * wv k i := fun i hi => Int32.toInt_inj.mp (by rw [mul_w (wv_pm k i) b0.1 b0.2, hf, hf]; exact w.1 i hi)
    have hid := id_of hall 8 (Nat.le_refl 8)
    rw [if_neg f0, a, if_pos rfl, e]
    rcases fl_first (fun k => idS f (f 0) k 8) 8 0 with ⟨_, n2⟩ | ⟨k2, _, n2, n3, n4⟩
    · exact absurd (n2 k (Nat.zero_le k) (by omega)) (by show ¬ idS f (f 0) k 8 = 0; rw [hid]; decide)
    · rw [n4]
      by_cases hkk : k = k2
      · rw [hkk]
      · exact absurd (hne k2 (by omega) f0 n3 k hk hkk) b
  · have ac : ¬ cnS (fun n => trS f n 8) 8 = 1 := fun e1 => by
      rw [a] at e1
      have e2 := congrArg Int32.toInt e1
      rw [nI_toInt (by omega), i32_1] at e2
      omega
    rw [if_neg ac]
    by_cases f0 : f 0 = 0
    · rw [if_pos f0]
    · rw [if_neg f0]
      rcases fl_first (fun k => idS f (f 0) k 8) 8 0 with ⟨n1, _⟩ | ⟨k2, _, n2, n3, n4⟩
      · exact n1
      · have hh := hne k2 (by omega) f0 n3
        by_cases e1 : j1 = k2
        · exact absurd (hh j2 g2 (by omega)) h2
        · exact absurd (hh j1 (by omega) e1) h1
/-! sets of wheels, the law's way -/
def loE (d : Nat → Int32) (K : Nat) : Nat → Int32
  | 0 => 0
  | i + 1 => loE d K i + (if lbI K i = 0 then 8 * d i * d i else 0)
def loW (d : Nat → Int32) (K : Nat) : Nat → Int32
  | 0 => 0
  | i + 1 => loW d K i + (if lbI K i = 1 then (if d i = 0 then 0 else 1) else 0)
def lfS (d : Nat → Int32) (x : Int32) : Nat → Int32
  | 0 => 8
  | K + 1 => if x < loE d K 8 then lfS d x K else if lfS d x K ≤ loW d K 8 then lfS d x K else loW d K 8
theorem dr_bd {a : Nat → Int32} (h : BdA a) (m : Nat) : BdA (dr a m) := fun k hk => by
  unfold dr
  split
  · exact h k hk
  · decide
theorem lo_se (a : Nat → Int32) (m K : Nat) : ∀ i, loE (dr a m) K i = seE (erF a m) K i
  | 0 => rfl
  | i + 1 => by
    show loE (dr a m) K i + (if lbI K i = 0 then 8 * dr a m i * dr a m i else 0) = if lbI K i = 0 then seE (erF a m) K i + erF a m i else seE (erF a m) K i
    rw [lo_se a m K i]
    by_cases c : lbI K i = 0
    · rw [if_pos c, if_pos c]; rfl
    · rw [if_neg c, if_neg c]; exact Int32.add_zero _
theorem lo_sw {a : Nat → Int32} (h : BdA a) (m K : Nat) : ∀ i, i ≤ 8 → loW (dr a m) K i = seW (erF a m) K i
  | 0, _ => rfl
  | i + 1, hi => by
    show loW (dr a m) K i + (if lbI K i = 1 then (if dr a m i = 0 then 0 else 1) else 0) = if lbI K i = 0 then seW (erF a m) K i else if erF a m i ≤ 0 then seW (erF a m) K i else seW (erF a m) K i + 1
    rw [lo_sw h m K i (by omega)]
    have b := dr_bd h m i (by omega)
    rcases lb_01 K i with c | c
    · rw [if_pos c, if_neg (by rw [c]; decide)]; exact Int32.add_zero _
    · have n0 : ¬ lbI K i = 0 := by rw [c]; decide
      rw [if_pos c, if_neg n0]
      by_cases z : dr a m i = 0
      · rw [if_pos z, if_pos (by unfold erF; rw [z]; decide)]; exact Int32.add_zero _
      · rw [if_neg z, if_neg (show ¬ erF a m i ≤ 0 from sq_pos b.1 b.2 z)]
theorem lf_fa {a : Nat → Int32} (h : BdA a) (m : Nat) (x : Int32) : ∀ K, lfS (dr a m) x K = faS (erF a m) x K
  | 0 => rfl
  | K + 1 => by
    show (if x < loE (dr a m) K 8 then lfS (dr a m) x K else if lfS (dr a m) x K ≤ loW (dr a m) K 8 then lfS (dr a m) x K else loW (dr a m) K 8) = if x < seE (erF a m) K 8 then faS (erF a m) x K else if faS (erF a m) x K ≤ seW (erF a m) K 8 then faS (erF a m) x K else seW (erF a m) K 8
    rw [lf_fa h m x K, lo_se, lo_sw h m K 8 (Nat.le_refl 8)]
theorem er_nnf {a : Nat → Int32} (h : BdA a) (m : Nat) : NNf (erF a m) := fun k hk => by
  have b := dr_bd h m k hk
  have h2 := sq_9801 b.1 b.2
  show 0 ≤ (8 * dr a m k * dr a m k).toInt ∧ (8 * dr a m k * dr a m k).toInt ≤ 78408
  rw [sq_I b.1 b.2]
  omega
theorem out_in {x a b : Int32} (h1 : a.toInt ≤ x.toInt) (h2 : x.toInt ≤ b.toInt) : outI x a b = 0 := by
  unfold outI
  rw [if_neg (fun c => by have := Int32.lt_iff_toInt_lt.mp c; omega), if_neg (fun c => by have := Int32.lt_iff_toInt_lt.mp c; omega)]
theorem out_le {x a b : Int32} (h : outI x a b = 0) : a.toInt ≤ x.toInt ∧ x.toInt ≤ b.toInt := by
  unfold outI at h
  split at h
  · cases h
  · split at h
    · cases h
    · rename_i h1 h2
      exact ⟨Int32.le_iff_toInt_le.mp (Int32.not_lt.mp h1), Int32.le_iff_toInt_le.mp (Int32.not_lt.mp h2)⟩
/-- the fewest wheels: the class, both ways, and the law -/
theorem fe_law {a : Nat → Int32} (h : BdA a) (m : Nat) {x : Int32} (hx : outI x 0 9999999 = 0) {w : Nat} (hw : w < 2) : feF (erF a m) x w = lfS (dr a m) x 256 := by
  have h1 := out_le hx
  have e0 : (0 : Int32).toInt = 0 := rfl
  have e9 : (9999999 : Int32).toInt = 9999999 := by decide
  have e := fe_01 (er_nnf h m) (x := x) (by omega) (by omega)
  rw [lf_fa h m x 256]
  have e1 : feF (erF a m) x 1 = faS (erF a m) x 256 := by unfold feF; rw [if_neg (by decide)]
  rcases (show w = 0 ∨ w = 1 by omega) with rfl | rfl
  · rw [← e]; exact e1
  · exact e1
/-! the best turn, the law's way -/
def lsT (g : Nat → Int32) : Nat → Int32
  | 0 => 1073741824
  | b + 1 => if g b < lsT g b then g b else lsT g b
def lbT (g : Nat → Int32) : Nat → Nat
  | 0 => 0
  | b + 1 => if g b < lsT g b then b else lbT g b
theorem bt_law {g : Nat → Int32} (h : (g 0).toInt < 1073741824) : ∀ j, lbT g (j + 1) = btS g j ∧ lsT g (j + 1) = g (btS g j)
  | 0 => by
    have e : (1073741824 : Int32).toInt = 1073741824 := by decide
    have c : g 0 < lsT g 0 := Int32.lt_iff_toInt_lt.mpr (by show (g 0).toInt < (1073741824 : Int32).toInt; omega)
    show (if g 0 < lsT g 0 then 0 else lbT g 0) = 0 ∧ (if g 0 < lsT g 0 then g 0 else lsT g 0) = g 0
    rw [if_pos c, if_pos c]
    exact ⟨rfl, rfl⟩
  | j + 1 => by
    obtain ⟨h1, h2⟩ := bt_law h j
    show (if g (j + 1) < lsT g (j + 1) then j + 1 else lbT g (j + 1)) = (if g (j + 1) < g (btS g j) then j + 1 else btS g j) ∧ (if g (j + 1) < lsT g (j + 1) then g (j + 1) else lsT g (j + 1)) = g (if g (j + 1) < g (btS g j) then j + 1 else btS g j)
    rw [h1, h2]
    by_cases c : g (j + 1) < g (btS g j)
    · rw [if_pos c, if_pos c]; exact ⟨rfl, rfl⟩
    · rw [if_neg c, if_neg c]; exact ⟨rfl, rfl⟩
theorem dt_bd {p d : Nat → Int32} (hp : BdP p) (hd : BdA d) (b : Nat) : ∀ i : Nat, i ≤ 8 → 0 ≤ (dtS p d b i).toInt ∧ (dtS p d b i).toInt ≤ 10791 * (i : Int)
  | 0, _ => by
    have e : (dtS p d b 0).toInt = 0 := rfl
    rw [e]; omega
  | i + 1, hi => by
    have h := dt_bd hp hd b i (by omega)
    have h2 := (di_I hp hd (show i < 8 by omega) (i ^^^ b)).2
    have h3 := ab_I (x := p i - trS d (i ^^^ b) 8) (by omega) (by omega)
    have h4 : 0 ≤ (abI (p i - trS d (i ^^^ b) 8)).toInt ∧ (abI (p i - trS d (i ^^^ b) 8)).toInt ≤ 10791 := by
      rw [h3]; split <;> omega
    have e : (dtS p d b (i + 1)).toInt = (dtS p d b i + abI (p i - trS d (i ^^^ b) 8)).toInt := rfl
    rw [e, Int32.toInt_add, Int.bmod_eq_of_le] <;> omega
/-! shares -/
theorem ms_a {d : Nat → Int32} (h : sqS d 8 = 0) (op : CmpOp) : Op.cmpValue (FP.dcmp (msF d) FP.dconst0) op = 0 := by
  unfold msF; rw [if_pos h]; exact fp_self fp_zero op
theorem ms_b {d : Nat → Int32} (h : ¬ sqS d 8 = 0) (op : CmpOp) : Op.cmpValue (FP.dcmp (msF d) (FP.ddiv (FP.i2d (mxS d 8)) (FP.i2d (sqS d 8)))) op = 0 := by
  unfold msF; rw [if_neg h]; exact fp_self (fp_nn _ _ h) op
theorem mx_a {d : Nat → Int32} {i : Nat} (c : d i * d i ≤ mxS d i) : mxS d i = mxS d (i + 1) := by
  show _ = if mxS d i < d i * d i then d i * d i else mxS d i
  rw [if_neg (fun h => absurd c (Int32.not_le.mpr h))]
theorem mx_b {d : Nat → Int32} {i : Nat} (c : ¬ d i * d i ≤ mxS d i) : d i * d i = mxS d (i + 1) := by
  show _ = if mxS d i < d i * d i then d i * d i else mxS d i
  rw [if_pos (Int32.not_le.mp c)]
/-- how many wheels are lost, below i -/
def loB (m : Nat) : Nat → Int32
  | 0 => 0
  | i + 1 => loB m i + lbI m i
theorem lo_bc {m : Nat} (h : m < 256) : bcF (nI m) = loB m 8 := bc_lo0 m h
/-! what act writes -/
theorem tq {a : Nat → Int32} {b i : Nat} : a i * wv i b = tuF a b i := by
  unfold tuF
  rcases wv_pm i b with e | e
  · rw [e, if_pos (by decide)]; grind
  · rw [e, if_neg (by decide)]; grind
theorem dq {a : Nat → Int32} {x : Int32} {i : Nat} : (if x ≤ abI (a i) then a i else 0) = doF a x i := by
  unfold doF
  by_cases c : a i = 0
  · rw [if_pos c, c]; split <;> rfl
  · rw [if_neg c]
theorem do_cn {z : Nat → Int32} {x : Int32} : ∀ i, cnS z i = doS z x i + cnS (doF z x) i
  | 0 => rfl
  | i + 1 => by
    have h := do_cn (z := z) (x := x) i
    have e : doF z x i = if z i = 0 then z i else if x ≤ abI (z i) then z i else 0 := rfl
    show cnS z i + (if z i = 0 then 0 else 1) = (if z i = 0 then doS z x i else if x ≤ abI (z i) then doS z x i else doS z x i + 1) + (cnS (doF z x) i + (if doF z x i = 0 then 0 else 1))
    rw [h, e]
    by_cases c : z i = 0
    · rw [if_pos c, if_pos c, if_pos c, if_pos c]; grind
    · rw [if_neg c, if_neg c, if_neg c]
      by_cases c2 : x ≤ abI (z i)
      · rw [if_pos c2, if_pos c2, if_neg c]; grind
      · rw [if_neg c2, if_neg c2, if_pos rfl]; grind
theorem do_dif (z : Nat → Int32) (x : Int32) : cnS z 8 - cnS (doF z x) 8 = doS z x 8 := by
  have h := do_cn (z := z) (x := x) 8
  grind
theorem i32_99 : (99 : Int32).toInt = 99 := rfl
theorem i32_m99 : (-99 : Int32).toInt = -99 := rfl
theorem cl_a {v : Int32} (h : ¬ v ≤ 99) : 99 = clI v := by
  unfold clI
  rw [if_neg (fun c => absurd (Int32.le_iff_toInt_le.mpr (Int.le_of_lt (Int32.lt_iff_toInt_lt.mp c))) h), if_pos (by decide)]
theorem cl_b {v : Int32} (h : ¬ -99 ≤ v) : -99 = clI v := by
  have h1 : ¬ (-99 : Int) ≤ v.toInt := fun c => h (Int32.le_iff_toInt_le.mpr (by rw [i32_m99]; exact c))
  unfold clI
  rw [if_pos (Int32.lt_iff_toInt_lt.mpr (by rw [i32_99]; omega) : v < 99), if_neg (fun c => by have := Int32.lt_iff_toInt_lt.mp c; rw [i32_m99] at this; omega)]
theorem cl_c {v : Int32} (h : v ≤ 99) (h2 : -99 ≤ v) : v = clI v := by
  have a := Int32.le_iff_toInt_le.mp h
  have b := Int32.le_iff_toInt_le.mp h2
  rw [i32_99] at a
  rw [i32_m99] at b
  have hm : (if v < 99 then v else 99) = v := by
    split
    · rfl
    · rename_i c
      refine Int32.toInt_inj.mp ?_
      rw [i32_99]
      have : ¬ v.toInt < 99 := fun d => c (Int32.lt_iff_toInt_lt.mpr (by rw [i32_99]; exact d))
      omega
  unfold clI
  rw [hm]
  split
  · rfl
  · rename_i c
    refine Int32.toInt_inj.mp ?_
    rw [i32_m99]
    have : ¬ -99 < v.toInt := fun d => c (Int32.lt_iff_toInt_lt.mpr (by rw [i32_m99]; exact d))
    omega
theorem cl_bd (v : Int32) : -99 ≤ (clI v).toInt ∧ (clI v).toInt ≤ 99 := by
  by_cases c : v ≤ 99
  · by_cases c2 : -99 ≤ v
    · rw [← cl_c c c2]
      have a := Int32.le_iff_toInt_le.mp c
      have b := Int32.le_iff_toInt_le.mp c2
      rw [i32_99] at a
      rw [i32_m99] at b
      omega
    · rw [← cl_b c2]; decide
  · rw [← cl_a c]; decide
theorem bd_fi (q : Nat → Int32) : BdA (fiF q) := fun k _ => cl_bd _
theorem bd_tu {a : Nat → Int32} (h : BdA a) (b : Nat) : BdA (tuF a b) := fun j hj => by
  rw [← tq]
  exact mul_pm (wv_pm j b) (h j hj).1 (h j hj).2
theorem bd_do {a : Nat → Int32} (h : BdA a) (x : Int32) : BdA (doF a x) := fun j hj => by
  unfold doF
  split
  · exact h j hj
  · split
    · exact h j hj
    · decide
theorem bd_st {a : Nat → Int32} (h : BdA a) {k : Nat} {x : Int32} (hx : outI x (-99) 99 = 0) : BdA (upd a k x) := fun j hj => by
  unfold upd
  split
  · have := out_le hx; rw [i32_99, i32_m99] at this; exact this
  · exact h j hj
theorem bp_st {a : Nat → Int32} (h : BdP a) {k : Nat} {x : Int32} (hx : outI x (-9999) 9999 = 0) : BdP (upd a k x) := fun j hj => by
  unfold upd
  split
  · have := out_le hx
    have e1 : (-9999 : Int32).toInt = -9999 := rfl
    have e2 : (9999 : Int32).toInt = 9999 := rfl
    rw [e1, e2] at this; exact this
  · exact h j hj
theorem bp_tr {a : Nat → Int32} (h : BdA a) (m : Nat) : BdP (fun n => trS (dr a m) n 8) := fun k hk => by
  have := tr_792 (dr_bd h m) k
  show -9999 ≤ (trS (dr a m) k 8).toInt ∧ (trS (dr a m) k 8).toInt ≤ 9999
  omega
theorem sb_I {j c : Nat} (hj : j < 20000) (hc : c < 20000) : (nI j - nI c).toInt = (j : Int) - c := by
  rw [Int32.toInt_sub, nI_toInt (by omega), nI_toInt (by omega), Int.bmod_eq_of_le] <;> omega
theorem fi_cl {p : Nat → Int32} {k : Nat} : clI (trS p k 8 >>> (3 : Int32)) = fiF p k := by unfold fiF; rw [ps_tr]
theorem xr_01 : ∀ m, m < 256 → ∀ k, k < 8 → m ^^^ 2 ^ k < 256 ∧ ∀ j, j < 8 → lbI (m ^^^ 2 ^ k) j = if j = k then 1 - lbI m k else lbI m j := by decide +kernel
theorem lb_z (k : Nat) : lbI 0 k = 0 := by unfold lbI; rw [Nat.zero_div]; rfl

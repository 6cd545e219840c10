/-! one part of a text, read both ways -/
section
variable {t : Nat → Int32} {len : Nat}
/-- how a part may end -/
def PtE (t : Nat → Int32) (len j : Nat) : Prop := ∃ p, plS t j = some p ∧ (p = 5 ∨ (p = 4 ∧ (j < len → dgI (t j) = 0)))
/-- digits -/
theorem dg_run (hT : TxT t len) {f : Nat → Int32} {n : Int32} {b p m w ng : Nat} (hb : b ≤ len) (hp : plS t b = some p) (hg : tt t b = (upd f w 0, m, w, ng)) (hc : (p = 2 ∧ n = 0 ∧ ng = 0 ∧ ¬ atF t len b = 45) ∨ (p = 3 ∧ n = 1 ∧ ng = 1)) :
    ((rpG (atF t len) n b).1 = -1 - nI b ∧ (b < len → pbO p (t b) = none)) ∨
    ∃ j, (rpG (atF t len) n b).1 = nI j ∧ b + 1 ≤ j ∧ j ≤ len ∧ PtE t len j ∧ tt t j = (upd f w (rpG (atF t len) n b).2, m, w, ng) ∧ -99 ≤ ((rpG (atF t len) n b).2).toInt ∧ ((rpG (atF t len) n b).2).toInt ≤ 99 := by
  have hn : n = 0 ∨ n = 1 := by rcases hc with ⟨_, e, _, _⟩ | ⟨_, e, _⟩ <;> simp [e]
  have hn2 : (n = 0 ∧ ng = 0) ∨ (n = 1 ∧ ng = 1) := by rcases hc with ⟨_, e, e2, _⟩ | ⟨_, e, e2⟩ <;> simp [e, e2]
  by_cases c : inI (atF t len b - 48) n 9 = 0
  · refine Or.inl ⟨by rw [rg_a c], fun hl => ?_⟩
    have h9 := dg_out hT hn hl c
    rcases hc with ⟨e1, e2, _, e4⟩ | ⟨e1, e2, _⟩
    · rw [e1, pb2, if_neg (by rw [← at_i (t := t) hl]; exact e4)]
      unfold fdO
      rcases h9 with h9 | ⟨h9, _⟩
      · rw [if_pos h9]
      · rw [e2] at h9; exact absurd h9 (by decide)
    · rw [e1, pb3]
      by_cases c8 : t b = 48
      · rw [if_pos c8]
      · rw [if_neg c8]
        unfold fdO
        rcases h9 with h9 | ⟨_, h9⟩
        · rw [if_pos h9]
        · exact absurd h9 c8
  · obtain ⟨hl, hd, hz, d1, d2⟩ := dg_in hT hn c
    have eb := at_i (t := t) hl
    have es := sub48 (x := t b) (by omega) (by omega)
    have g1 := tt_dg hg hd hn2
    have e0 : upd f w 0 w = 0 := by unfold upd; rw [if_pos rfl]
    rw [e0, Int32.zero_mul, Int32.zero_add, upd_upd] at g1
    have hq : ∀ (c8 : ¬ t b = 48), plS t (b + 1) = some 4 := fun c8 => by
      rw [pl_s hp]
      rcases hc with ⟨e1, _, _, e4⟩ | ⟨e1, _, _⟩
      · rw [e1, pb2, if_neg (by rw [← eb]; exact e4)]
        unfold fdO; rw [if_neg hd, if_neg c8]
      · rw [e1, pb3, if_neg c8]
        unfold fdO; rw [if_neg hd, if_neg c8]
    by_cases c2 : atF t len b - 48 ≤ 0
    · have c2' := Int32.le_iff_toInt_le.mp c2
      rw [eb, es, i32_0] at c2'
      have c8 : t b = 48 := Int32.toInt_inj.mp (by rw [i32_48]; omega)
      have h5 : plS t (b + 1) = some 5 := by
        rw [pl_s hp]
        rcases hc with ⟨e1, _, _, e4⟩ | ⟨_, e2, _⟩
        · rw [e1, pb2, if_neg (by rw [← eb]; exact e4)]
          unfold fdO; rw [if_neg hd, if_pos c8]
        · exact absurd c8 (hz e2)
      refine Or.inr ⟨b + 1, ?_, by omega, by omega, ⟨5, h5, Or.inl rfl⟩, ?_, ?_⟩
      · rw [rg_b c c2]
      · rw [rg_b c c2, eb]; exact g1
      · rw [rg_b c c2, eb]; exact sg_bd hn (by omega) (by omega)
    · have c8 : ¬ t b = 48 := fun e => c2 (by rw [eb, e]; decide)
      by_cases c3 : inI (atF t len (b + 1)) 48 57 = 0
      · refine Or.inr ⟨b + 1, ?_, by omega, by omega, ⟨4, hq c8, Or.inr ⟨rfl, fun h => ?_⟩⟩, ?_, ?_⟩
        · rw [rg_c c c2 c3]
        · rw [at_i h] at c3; exact c3
        · rw [rg_c c c2 c3, eb]; exact g1
        · rw [rg_c c c2 c3, eb]; exact sg_bd hn (by omega) (by omega)
      · have hl1 := at_in c3
        have eb1 := at_i (t := t) hl1
        rw [eb1] at c3
        have c3' := in_iff.mp c3
        have e7 : (57 : Int32).toInt = 57 := rfl
        rw [i32_48, e7] at c3'
        have c3d : ¬ dgI (t (b + 1)) = 0 := c3
        have h5 : plS t (b + 1 + 1) = some 5 := by rw [pl_s (hq c8), pb4, if_neg c3d]
        have g2 := tt_dg g1 c3d hn2
        have e1 : upd f w (sgF n (t b - 48)) w = sgF n (t b - 48) := by unfold upd; rw [if_pos rfl]
        rw [e1, sg_2 hn, upd_upd] at g2
        have v1 : (10 * (t b - 48)).toInt = 10 * ((t b).toInt - 48) := by
          have e10 : (10 : Int32).toInt = 10 := rfl
          rw [Int32.toInt_mul, es, e10, Int.bmod_eq_of_le] <;> omega
        have v2 : (10 * (t b - 48) + t (b + 1)).toInt = 10 * ((t b).toInt - 48) + (t (b + 1)).toInt := by
          rw [Int32.toInt_add, v1, Int.bmod_eq_of_le] <;> omega
        have v3 : (10 * (t b - 48) + t (b + 1) - 48).toInt = 10 * ((t b).toInt - 48) + (t (b + 1)).toInt - 48 := by
          rw [Int32.toInt_sub, v2, i32_48, Int.bmod_eq_of_le] <;> omega
        rw [← eb1] at c3
        refine Or.inr ⟨b + 2, ?_, by omega, by omega, ⟨5, h5, Or.inl rfl⟩, ?_, ?_⟩
        · rw [rg_d c c2 c3]
        · rw [rg_d c c2 c3, eb, eb1]; exact g2
        · rw [rg_d c c2 c3, eb, eb1]; exact sg_bd hn (by omega) (by omega)
/-- what a part without a fault leaves of the wheels -/
def PtW (t : Nat → Int32) (len i j : Nat) : Prop :=
  (¬ rpL (atF t len) i = 0 ∧ (tt t j).1 = (tt t i).1 ∧ (tt t j).2.1 = (tt t i).2.1 ||| 2 ^ wlF (atF t len) i) ∨
  (rpL (atF t len) i = 0 ∧ (tt t j).1 = upd (tt t i).1 (wlF (atF t len) i) (ldA (atF t len) i) ∧ (tt t j).2.1 = (tt t i).2.1 ∧ -99 ≤ (ldA (atF t len) i).toInt ∧ (ldA (atF t len) i).toInt ≤ 99)
theorem pt_run (hT : TxT t len) {i : Nat} (hi : i ≤ len) (h0 : plS t i = some 0) :
    (∃ e, e ≤ len ∧ mrp1 (atF t len) i = -1 - nI e ∧ epG t (len - i) i = e ∧ twF (plS t len) = 0) ∨
    ∃ j, mrp1 (atF t len) i = nI j ∧ i + 2 ≤ j ∧ j ≤ len ∧ PtE t len j ∧ wlF (atF t len) i < 8 ∧ PtW t len i j := by
  obtain ⟨⟨f, m, w0, ng⟩, g0⟩ : ∃ s, tt t i = s := ⟨_, rfl⟩
  by_cases c : inI (atF t len i - 97) 0 7 = 0
  · refine Or.inl ⟨i, hi, by unfold mrp1; rw [rp_a c], er_at h0 hi (fun hl => ?_) (fun _ => by decide) (Nat.le_refl i)⟩
    rw [pb0]
    have h1 : ltI (atF t len i) = 0 := Decidable.byContradiction fun g => (le_in hT).mpr g c
    rw [at_i hl] at h1
    rw [if_pos h1]
  · obtain ⟨hl, hw⟩ := lt_pos hT c
    have h1 : plS t (i + 1) = some 1 := by rw [pl_s h0, pb0, if_neg hw]
    have g1 := tt_a g0 hw
    have hw8 : wlF (atF t len) i < 8 := (wl_0 c).2
    have ew : (t i - 97).toNatClampNeg = wlF (atF t len) i := by unfold wlF; rw [at_i hl]
    rw [ew] at g1
    by_cases c2 : atF t len (i + 1) = 33
    · have hl1 := at_lt c2 (by decide)
      have c2' := c2
      rw [at_i hl1] at c2'
      have h2 : plS t (i + 1 + 1) = some 5 := by rw [pl_s h1, pb1, if_neg (by rw [c2']; decide), if_pos c2']
      have g2 := tt_b g1 (by rw [c2']; decide) c2'
      refine Or.inr ⟨i + 2, by unfold mrp1; rw [rp_b c c2], by omega, by omega, ⟨5, h2, Or.inl rfl⟩, hw8, Or.inl ⟨by rw [rpl_t c2]; decide, ?_, ?_⟩⟩
      · rw [show i + 2 = i + 1 + 1 from rfl, g2, g0]
      · rw [show i + 2 = i + 1 + 1 from rfl, g2, g0]
    · by_cases c3 : atF t len (i + 1) = 61
      · have hl1 := at_lt c3 (by decide)
        have c3' := c3
        rw [at_i hl1] at c3'
        have h2 : plS t (i + 1 + 1) = some 2 := by rw [pl_s h1, pb1, if_pos c3']
        have g2 := tt_c g1 (by rw [c3']; decide) (by rw [c3']; decide) c3'
        by_cases c4 : atF t len (i + 2) = 45
        · have hl2 := at_lt c4 (by decide)
          have c4' := c4
          rw [at_i hl2] at c4'
          have h3 : plS t (i + 2 + 1) = some 3 := by rw [pl_s (i := i + 2) h2, pb2, if_pos c4']
          have g3 := tt_d (i := i + 2) g2 (by rw [c4']; decide) (by rw [c4']; decide) (by rw [c4']; decide) c4'
          rcases dg_run hT (n := 1) (b := i + 3) (by omega) h3 g3 (Or.inr ⟨rfl, rfl, rfl⟩) with ⟨e1, e2⟩ | ⟨j, e1, e2, e3, e4, e5, e6⟩
          · exact Or.inl ⟨i + 3, by omega, by unfold mrp1; rw [rp_d c c2 c3 c4]; exact e1, er_at h3 (by omega) e2 (fun _ => by decide) (by omega)⟩
          · refine Or.inr ⟨j, by unfold mrp1; rw [rp_d c c2 c3 c4]; exact e1, by omega, e3, e4, hw8, Or.inr ⟨rpl_f c2, ?_, ?_, ?_⟩⟩
            · unfold ldA; rw [rp_d c c2 c3 c4, e5, g0]
            · rw [e5, g0]
            · unfold ldA; rw [rp_d c c2 c3 c4]; exact e6
        · rcases dg_run hT (n := 0) (b := i + 2) (by omega) h2 g2 (Or.inl ⟨rfl, rfl, rfl, c4⟩) with ⟨e1, e2⟩ | ⟨j, e1, e2, e3, e4, e5, e6⟩
          · exact Or.inl ⟨i + 2, by omega, by unfold mrp1; rw [rp_e c c2 c3 c4]; exact e1, er_at (e := i + 2) h2 (by omega) e2 (fun _ => by decide) (by omega)⟩
          · refine Or.inr ⟨j, by unfold mrp1; rw [rp_e c c2 c3 c4]; exact e1, by omega, e3, e4, hw8, Or.inr ⟨rpl_f c2, ?_, ?_, ?_⟩⟩
            · unfold ldA; rw [rp_e c c2 c3 c4, e5, g0]
            · rw [e5, g0]
            · unfold ldA; rw [rp_e c c2 c3 c4]; exact e6
      · have e9 : -2 - nI i = -1 - nI (i + 1) := by
          have h9 := nI_add i 1
          rw [← h9]
          have h8 : nI 1 = 1 := rfl
          rw [h8]; grind
        refine Or.inl ⟨i + 1, by omega, by unfold mrp1; rw [rp_c c c2 c3]; exact e9, er_at h1 (by omega) (fun hl1 => ?_) (fun _ => by decide) (by omega)⟩
        rw [at_i hl1] at c2 c3
        rw [pb1, if_neg c3, if_neg c2]
end

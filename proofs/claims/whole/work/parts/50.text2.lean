/-! a whole text, read both ways: its first error, the wheels that it tells -/
section
variable {t : Nat → Int32} {len : Nat}
theorem m1_e (e : Nat) : -1 - (-1 - nI e) = nI e := by grind
theorem pe_sep {j : Nat} (h : PtE t len j) (hj : j < len) : (t j = 59 ∧ plS t (j + 1) = some 0) ∨ (¬ t j = 59 ∧ plS t (j + 1) = none) := by
  obtain ⟨p, hp, hc⟩ := h
  have hw : plS t (j + 1) = wbO (t j) := by
    rw [pl_s hp]
    rcases hc with e | ⟨e, e2⟩
    · rw [e, pb5]
    · rw [e, pb4, if_pos (e2 hj)]
  rw [hw]
  unfold wbO
  by_cases c : t j = 59
  · rw [if_pos c]; exact Or.inl ⟨c, rfl⟩
  · rw [if_neg c]; exact Or.inr ⟨c, rfl⟩
theorem pe_tw (h : PtE t len len) : twF (plS t len) = 1 := by
  obtain ⟨p, hp, hc⟩ := h
  rw [hp]
  rcases hc with e | ⟨e, _⟩ <;> (rw [e]; rfl)
theorem tx_run (hT : TxT t len) : ∀ n i, i ≤ len → len < i + n → plS t i = some 0 →
    (ferS t len n i = -1 ∧ epG t (len - i) i = len ∧ twF (plS t len) = 1) ∨ (∃ e, e ≤ len ∧ ferS t len n i = nI e ∧ epG t (len - i) i = e ∧ twF (plS t len) = 0)
  | 0, i, h1, h2, _ => by omega
  | n + 1, i, h1, h2, h0 => by
    have hl := hT.1
    rcases pt_run hT h1 h0 with ⟨e, e1, e2, e3, e4⟩ | ⟨j, j1, j2, j3, j4, _, _⟩
    · refine Or.inr ⟨e, e1, ?_, e3, e4⟩
      rw [fer_a (Nat.succ_pos n) (by rw [e2]; exact (nI_neg e (by omega)).1), e2, m1_e]
    · obtain ⟨p, hp, hc⟩ := id j4
      have he := ep_to hp j3 (j - i) i (by omega)
      by_cases c : j = len
      · subst c
        refine Or.inl ⟨fer_b (Nat.succ_pos n) j1 (by omega) rfl, ?_, pe_tw j4⟩
        rw [he, Nat.sub_self]; rfl
      · rcases pe_sep j4 (by omega) with ⟨c2, h3⟩ | ⟨c2, h3⟩
        · have h5 := tx_run hT n (j + 1) (by omega) (by omega) h3
          rw [fer_d (Nat.succ_pos n) j1 (by omega) c c2, he, ep_s (by omega) h3]
          exact h5
        · have h5 := er_at (i := j) hp j3 (fun _ => by rw [← pl_s hp]; exact h3) (fun e => absurd e c) (Nat.le_refl j)
          exact Or.inr ⟨j, j3, fer_c (Nat.succ_pos n) j1 (by omega) c c2, by rw [he]; exact h5.1, h5.2⟩
/-- the first error -/
theorem tx_err (hT : TxT t len) : nI (epG t len 0) = if ferS t len 61 0 < 0 then nI len else ferS t len 61 0 := by
  have hl := hT.1
  rcases tx_run hT 61 0 (Nat.zero_le _) (by omega) rfl with ⟨a, b, _⟩ | ⟨e, e1, a, b, _⟩
  · rw [a, if_pos (by decide)]
    rw [Nat.sub_zero] at b
    rw [b]
  · rw [a, if_neg (nI_cl e (by omega)).2]
    rw [Nat.sub_zero] at b
    rw [b]
theorem tx_ok (hT : TxT t len) : (twF (plS t len) = 1 ∧ ferS t len 61 0 = -1) ∨ (twF (plS t len) = 0 ∧ 0 ≤ ferS t len 61 0) := by
  have hl := hT.1
  rcases tx_run hT 61 0 (Nat.zero_le _) (by omega) rfl with ⟨a, _, c⟩ | ⟨e, e1, a, _, c⟩
  · exact Or.inl ⟨c, a⟩
  · exact Or.inr ⟨c, by rw [a]; exact Int32.not_lt.mp (nI_cl e (by omega)).2⟩
/-- the wheels so far, told by both -/
def TtR (s : (Nat → Int32) × Nat × Nat × Nat) (f : Nat → Int32) : Prop := (∀ k, k < 8 → s.1 k = f k) ∧ RlW s.2.1 f ∧ BdA f
theorem or_lb0 : ∀ w, w < 8 → ∀ m, m < 256 → ∀ k, k < 8 → lbI (m ||| 2 ^ w) k = if k = w then 1 else lbI m k := by decide +kernel
theorem tr_w {i j : Nat} {f : Nat → Int32} (hw : wlF (atF t len) i < 8) (h : PtW t len i j) (hr : TtR (tt t i) f) :
    (¬ rpL (atF t len) i = 0 ∧ TtR (tt t j) (upd f (8 + wlF (atF t len) i) 1)) ∨ (rpL (atF t len) i = 0 ∧ TtR (tt t j) (upd f (wlF (atF t len) i) (ldA (atF t len) i))) := by
  obtain ⟨r1, r2, r3⟩ := hr
  rcases h with ⟨c, e1, e2⟩ | ⟨c, e1, e2, e3⟩
  · refine Or.inl ⟨c, fun k hk => ?_, ⟨?_, fun k hk => ?_⟩, fun k hk => ?_⟩
    · rw [e1, r1 k hk]; unfold upd; rw [if_neg (by omega)]
    · rw [e2]; exact or_lt r2.1 hw
    · rw [e2, or_lb0 _ hw _ r2.1 k hk]
      unfold upd
      by_cases g : k = wlF (atF t len) i
      · rw [if_pos (by omega), if_pos g]
      · rw [if_neg (by omega), if_neg g]; exact r2.2 k hk
    · unfold upd; rw [if_neg (by omega)]; exact r3 k hk
  · refine Or.inr ⟨c, fun k hk => ?_, ⟨?_, fun k hk => ?_⟩, fun k hk => ?_⟩
    · rw [e1]; unfold upd
      by_cases g : k = wlF (atF t len) i
      · rw [if_pos g, if_pos g]
      · rw [if_neg g, if_neg g]; exact r1 k hk
    · rw [e2]; exact r2.1
    · rw [e2]; unfold upd; rw [if_neg (by omega)]; exact r2.2 k hk
    · unfold upd
      split
      · exact e3
      · exact r3 k hk
theorem tt_semi {j : Nat} (h : t j = 59) : tt t (j + 1) = tt t j := by
  obtain ⟨⟨f, m, w, ng⟩, g⟩ : ∃ s, tt t j = s := ⟨_, rfl⟩
  rw [tt_e g (by rw [h]; decide) (by rw [h]; decide) (by rw [h]; decide) (by rw [h]; decide) (by rw [h]; decide), g]
theorem tx_load (hT : TxT t len) : ∀ n i f, i ≤ len → len < i + n → plS t i = some 0 → ferS t len n i = -1 → TtR (tt t i) f →
    TtR (tt t len) (ldS (atF t len) len n i f) ∧ ∀ k, 16 ≤ k → ldS (atF t len) len n i f k = f k
  | 0, i, _, h1, h2, _, _, _ => by omega
  | n + 1, i, f, h1, h2, h0, h3, hr => by
    have hl := hT.1
    rcases pt_run hT h1 h0 with ⟨e, e1, e2, e3, e4⟩ | ⟨j, j1, j2, j3, j4, j5, j6⟩
    · exfalso
      rw [fer_a (Nat.succ_pos n) (by rw [e2]; exact (nI_neg e (by omega)).1), e2, m1_e] at h3
      exact (nI_cl e (by omega)).2 (by rw [h3]; decide)
    · have hil : i < len := by omega
      have key : ∀ f', TtR (tt t j) f' → TtR (tt t len) (ldS (atF t len) len n (j + 1) f') ∧ ∀ k, 16 ≤ k → ldS (atF t len) len n (j + 1) f' k = f' k := fun f' hr' => by
        by_cases c : j = len
        · rw [ld_e (by omega), ← c]
          exact ⟨hr', fun _ _ => rfl⟩
        · rcases pe_sep j4 (by omega) with ⟨c2, h5⟩ | ⟨c2, h5⟩
          · rw [fer_d (Nat.succ_pos n) j1 (by omega) c c2] at h3
            exact tx_load hT n (j + 1) f' (by omega) (by omega) h5 h3 (by rw [tt_semi c2]; exact hr')
          · exfalso
            rw [fer_c (Nat.succ_pos n) j1 (by omega) c c2] at h3
            exact (nI_cl j (by omega)).2 (by rw [h3]; decide)
      rcases tr_w j5 j6 hr with ⟨c, hr'⟩ | ⟨c, hr'⟩
      · rw [ld_b (Nat.succ_pos n) hil j1 (by omega) c]
        obtain ⟨k1, k2⟩ := key _ hr'
        refine ⟨k1, fun k hk => (k2 k hk).trans ?_⟩
        unfold upd; rw [if_neg (by omega)]
      · rw [ld_a (Nat.succ_pos n) hil j1 (by omega) c]
        obtain ⟨k1, k2⟩ := key _ hr'
        refine ⟨k1, fun k hk => (k2 k hk).trans ?_⟩
        unfold upd; rw [if_neg (by omega)]
/-- the wheels of a text without a fault -/
theorem tx_ld (hT : TxT t len) (h : ferS t len 61 0 = -1) (z : Nat → Int32) : TtR (tt t len) (ldF t len z) ∧ ∀ k, 16 ≤ k → ldF t len z k = z k := by
  have hl := hT.1
  have h0 : TtR (tt t 0) (clM z) := ⟨fun k hk => by unfold clM; rw [if_pos (by omega)]; rfl, ⟨show 0 < 256 by decide, fun k hk => by
    unfold clM; rw [if_pos (by omega)]
    unfold lbI
    show (0 : Int32) = nI (0 / 2 ^ k % 2)
    rw [Nat.zero_div]; rfl⟩, fun k hk => by unfold clM; rw [if_pos (by omega)]; decide⟩
  obtain ⟨a, b⟩ := tx_load hT 61 0 (clM z) (Nat.zero_le _) (by omega) rfl h h0
  refine ⟨a, fun k hk => (b k hk).trans ?_⟩
  unfold clM; rw [if_neg (by omega)]
end

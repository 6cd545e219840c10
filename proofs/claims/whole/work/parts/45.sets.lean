/-! the class's second way: all sets, as numbers with a bit for each wheel -/
def btN (K k : Nat) : Bool := decide (K / 2 ^ k % 2 = 1)
theorem bt_lb {K k : Nat} : (lbI K k = 0 ∧ btN K k = false) ∨ (¬ lbI K k = 0 ∧ btN K k = true) := by
  have h : K / 2 ^ k % 2 = 0 ∨ K / 2 ^ k % 2 = 1 := by omega
  unfold lbI btN
  rcases h with h | h
  · rw [h]; exact Or.inl ⟨rfl, by decide⟩
  · rw [h]; exact Or.inr ⟨by decide, by decide⟩
theorem bt_all : ∀ b0 b1 b2 b3 b4 b5 b6 b7 : Bool, (b0.toNat + 2 * b1.toNat + 4 * b2.toNat + 8 * b3.toNat + 16 * b4.toNat + 32 * b5.toNat + 64 * b6.toNat + 128 * b7.toNat) < 256 ∧
    ∀ k, k < 8 → btN (b0.toNat + 2 * b1.toNat + 4 * b2.toNat + 8 * b3.toNat + 16 * b4.toNat + 32 * b5.toNat + 64 * b6.toNat + 128 * b7.toNat) k = [b0, b1, b2, b3, b4, b5, b6, b7].getD k false := by decide +kernel
theorem bt_of (b : Nat → Bool) : ∃ j, j < 256 ∧ ∀ k, k < 8 → btN j k = b k := by
  have h := bt_all (b 0) (b 1) (b 2) (b 3) (b 4) (b 5) (b 6) (b 7)
  refine ⟨_, h.1, fun k hk => (h.2 k hk).trans ?_⟩
  rcases (show k = 0 ∨ k = 1 ∨ k = 2 ∨ k = 3 ∨ k = 4 ∨ k = 5 ∨ k = 6 ∨ k = 7 by omega) with e | e | e | e | e | e | e | e <;> (subst e; rfl)
section
variable {f : Nat → Int32}
theorem gn_I (hf : NNf f) {k : Nat} (hk : k < 8) : (gNN f k : Int) = (f k).toInt ∧ gNN f k ≤ 78408 := by
  have h := hf k hk
  unfold gNN
  omega
theorem gn_le (hf : NNf f) {k : Nat} (hk : k < 8) : (f k ≤ 0 ∧ pWN (gNN f) k = 0) ∨ (¬ f k ≤ 0 ∧ pWN (gNN f) k = 1) := by
  have h := gn_I hf hk
  unfold pWN
  by_cases c : f k ≤ 0
  · have c' := Int32.le_iff_toInt_le.mp c
    rw [i32_0] at c'
    exact Or.inl ⟨c, if_pos (by omega)⟩
  · have c' : ¬ (f k).toInt ≤ (0 : Int32).toInt := fun e => c (Int32.le_iff_toInt_le.mpr e)
    rw [i32_0] at c'
    exact Or.inr ⟨c, if_neg (by omega)⟩
theorem po_su (hf : NNf f) : ∀ i, i ≤ 8 → poS f i = nI (suN (pWN (gNN f)) i)
  | 0, _ => rfl
  | i + 1, hi => by
    show poS f i + (if f i ≤ 0 then 0 else 1) = nI (suN (pWN (gNN f)) i + pWN (gNN f) i)
    rw [po_su hf i (by omega)]
    rcases gn_le hf (k := i) (by omega) with ⟨c, e⟩ | ⟨c, e⟩
    · rw [if_pos c, e]; exact nI_add _ 0
    · rw [if_neg c, e]; exact nI_add _ 1
theorem ew_bd (hf : NNf f) (b : Nat → Bool) {i : Nat} (hi : i ≤ 8) : suN (eWN (gNN f) b) i ≤ 78408 * i := su_bd (fun k hk => by
  unfold eWN
  split
  · omega
  · exact (gn_I hf (by omega)).2)
theorem se_su (hf : NNf f) (K : Nat) : ∀ i, i ≤ 8 → (seE f K i).toInt = (suN (eWN (gNN f) (btN K)) i : Int)
  | 0, _ => rfl
  | i + 1, hi => by
    have h := se_su hf K i (by omega)
    have hb := ew_bd hf (btN K) (i := i) (by omega)
    have hg := gn_I hf (k := i) (by omega)
    show (if lbI K i = 0 then seE f K i + f i else seE f K i).toInt = ((suN (eWN (gNN f) (btN K)) i + eWN (gNN f) (btN K) i : Nat) : Int)
    unfold eWN at h hb ⊢
    rcases bt_lb (K := K) (k := i) with ⟨c, e⟩ | ⟨c, e⟩
    · rw [if_pos c, e, if_neg (by decide), Int32.toInt_add, h, Int.bmod_eq_of_le] <;> omega
    · rw [if_neg c, e, if_pos rfl, h]; omega
theorem sw_su (hf : NNf f) (K : Nat) : ∀ i, i ≤ 8 → seW f K i = nI (suN (cWN (gNN f) (btN K)) i)
  | 0, _ => rfl
  | i + 1, hi => by
    show (if lbI K i = 0 then seW f K i else if f i ≤ 0 then seW f K i else seW f K i + 1) = nI (suN (cWN (gNN f) (btN K)) i + cWN (gNN f) (btN K) i)
    rw [sw_su hf K i (by omega)]
    unfold cWN
    rcases bt_lb (K := K) (k := i) with ⟨c, e⟩ | ⟨c, e⟩
    · rw [if_pos c, e, if_neg (by decide)]; rfl
    · rw [if_neg c, e, if_pos rfl]
      rcases gn_le hf (k := i) (by omega) with ⟨c2, e2⟩ | ⟨c2, e2⟩
      · rw [if_pos c2, e2]; rfl
      · rw [if_neg c2, e2]; exact nI_add _ 1
theorem cwn_8 (b : Nat → Bool) : suN (cWN (gNN f) b) 8 ≤ 8 := su_bd (B := 1) (n := 8) (fun k hk => by
  unfold cWN pWN
  split
  · split <;> decide
  · decide)
theorem fa_opt (hf : NNf f) {x : Int32} (h1 : 0 ≤ x.toInt) (h2 : x.toInt ≤ 9999999) : ∀ K, ∃ M, faS f x K = nI M ∧ M ≤ 8 ∧ (∀ j, j < K → suN (eWN (gNN f) (btN j)) 8 ≤ x.toInt.toNat → M ≤ suN (cWN (gNN f) (btN j)) 8) ∧
    (M = 8 ∨ ∃ j, j < K ∧ suN (eWN (gNN f) (btN j)) 8 ≤ x.toInt.toNat ∧ M = suN (cWN (gNN f) (btN j)) 8)
  | 0 => ⟨8, rfl, Nat.le_refl _, fun j hj => absurd hj (Nat.not_lt_zero _), Or.inl rfl⟩
  | K + 1 => by
    obtain ⟨M, m1, m2, m3, m4⟩ := fa_opt hf h1 h2 K
    have he := se_su hf K 8 (Nat.le_refl 8)
    have hw := sw_su hf K 8 (Nat.le_refl 8)
    have hw8 := cwn_8 (f := f) (btN K)
    have hfa : faS f x (K + 1) = (if x < seE f K 8 then faS f x K else if faS f x K ≤ seW f K 8 then faS f x K else seW f K 8) := rfl
    rw [hfa]
    by_cases c : x < seE f K 8
    · have c' := Int32.lt_iff_toInt_lt.mp c
      rw [if_pos c]
      refine ⟨M, m1, m2, fun j hj hv => ?_, ?_⟩
      · by_cases e : j = K
        · subst e; omega
        · exact m3 j (by omega) hv
      · rcases m4 with e | ⟨j, j1, j2, j3⟩
        · exact Or.inl e
        · exact Or.inr ⟨j, by omega, j2, j3⟩
    · have c' : ¬ x.toInt < (seE f K 8).toInt := fun e => c (Int32.lt_iff_toInt_lt.mpr e)
      rw [if_neg c, m1, hw]
      have hle := nI_leI (a := M) (b := suN (cWN (gNN f) (btN K)) 8) (by omega) (by omega)
      by_cases c2 : nI M ≤ nI (suN (cWN (gNN f) (btN K)) 8)
      · rw [if_pos c2]
        have c3 := hle.mp c2
        refine ⟨M, rfl, m2, fun j hj hv => ?_, ?_⟩
        · by_cases e : j = K
          · subst e; exact c3
          · exact m3 j (by omega) hv
        · rcases m4 with e | ⟨j, j1, j2, j3⟩
          · exact Or.inl e
          · exact Or.inr ⟨j, by omega, j2, j3⟩
      · rw [if_neg c2]
        have c3 : ¬ M ≤ suN (cWN (gNN f) (btN K)) 8 := fun e => c2 (hle.mpr e)
        refine ⟨_, rfl, hw8, fun j hj hv => ?_, Or.inr ⟨K, by omega, by omega, rfl⟩⟩
        by_cases e : j = K
        · subst e; exact Nat.le_refl _
        · have := m3 j (by omega) hv
          omega
theorem fe_01 (hf : NNf f) {x : Int32} (h1 : 0 ≤ x.toInt) (h2 : x.toInt ≤ 9999999) : feF f x 1 = feF f x 0 := by
  have hp : suN (pWN (gNN f)) 8 ≤ 8 := su_bd (B := 1) (n := 8) (fun k hk => by unfold pWN; split <;> decide)
  obtain ⟨N, n1, n2, ⟨b, b1, b2⟩, n4⟩ := fb_opt 8 f x hf h1 h2 hp
  obtain ⟨M, m1, m2, m3, m4⟩ := fa_opt hf h1 h2 256
  obtain ⟨j, j1, j2⟩ := bt_of b
  have e1 : suN (eWN (gNN f) (btN j)) 8 = suN (eWN (gNN f) b) 8 := su_congr (fun k hk => by unfold eWN; rw [j2 k hk])
  have e2 : suN (cWN (gNN f) (btN j)) 8 = suN (cWN (gNN f) b) 8 := su_congr (fun k hk => by unfold cWN; rw [j2 k hk])
  have h3 := m3 j j1 (by omega)
  have h4 : N ≤ M := by
    rcases m4 with e | ⟨i, i1, i2, i3⟩
    · omega
    · have := n4 (btN i) i2
      omega
  have e : M = N := by omega
  show (if 1 = 0 then fbR 8 f x (poS f 8) else faS f x 256) = if 0 = 0 then fbR 8 f x (poS f 8) else faS f x 256
  rw [if_neg (by decide), if_pos rfl, m1, po_su hf 8 (Nat.le_refl 8), n1, e]
end
theorem er_nn {z : Nat → Int32} {m : Nat} (hr : RlW m z) (hb : BdA z) : NNf (erF z m) := fun k hk => by
  have e : erF z m k = 8 * us z k * us z k := by unfold erF; rw [rl_us hr hk]
  have b := bd_us hb k hk
  have h := sq_9801 b.1 b.2
  rw [e, sq_I b.1 b.2]
  omega
/-- the fewest wheels: the class, both ways, and the reference -/
theorem rl_fe {z : Nat → Int32} {m : Nat} (hr : RlW m z) (hb : BdA z) : FeW m z := fun x h1 h2 w hw => by
  have h0 := rl_fe0 hr hb h1 h2
  rcases (show w = 0 ∨ w = 1 by omega) with e | e
  · rw [e]; exact h0
  · rw [e, fe_01 (er_nn hr hb) h1 h2]; exact h0

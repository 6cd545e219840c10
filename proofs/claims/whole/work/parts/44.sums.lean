/-! sums over places, sets of places: the fewest of all sets is the fewest by leaving out the least -/
def suN (F : Nat → Nat) : Nat → Nat
  | 0 => 0
  | n + 1 => suN F n + F n
theorem su_congr {F G : Nat → Nat} : ∀ {n : Nat}, (∀ k, k < n → F k = G k) → suN F n = suN G n
  | 0, _ => rfl
  | n + 1, h => by
    show suN F n + F n = suN G n + G n
    rw [su_congr (fun k hk => h k (Nat.lt_succ_of_lt hk)), h n (Nat.lt_succ_self n)]
theorem su_zero {F : Nat → Nat} : ∀ {n : Nat}, (∀ k, k < n → F k = 0) → suN F n = 0
  | 0, _ => rfl
  | n + 1, h => by
    show suN F n + F n = 0
    rw [su_zero (fun k hk => h k (Nat.lt_succ_of_lt hk)), h n (Nat.lt_succ_self n)]
theorem su_ch {F G : Nat → Nat} {w : Nat} : ∀ {n : Nat}, w < n → (∀ k, k < n → k ≠ w → F k = G k) → suN F n + G w = suN G n + F w
  | 0, h, _ => absurd h (Nat.not_lt_zero _)
  | n + 1, h, e => by
    show suN F n + F n + G w = suN G n + G n + F w
    by_cases c : w = n
    · subst c
      rw [su_congr (fun k hk => e k (Nat.lt_succ_of_lt hk) (by omega))]
      omega
    · have a := su_ch (n := n) (by omega) (fun k hk => e k (Nat.lt_succ_of_lt hk))
      have b := e n (Nat.lt_succ_self n) (fun h => c h.symm)
      omega
theorem su_at {F : Nat → Nat} : ∀ {n k : Nat}, k < n → F k ≤ suN F n
  | 0, _, h => absurd h (Nat.not_lt_zero _)
  | n + 1, k, h => by
    show F k ≤ suN F n + F n
    by_cases c : k = n
    · rw [c]; omega
    · have := su_at (F := F) (n := n) (k := k) (by omega)
      omega
theorem su_bd {F : Nat → Nat} {B : Nat} : ∀ {n : Nat}, (∀ k, k < n → F k ≤ B) → suN F n ≤ B * n
  | 0, _ => Nat.le_refl _
  | n + 1, h => by
    show suN F n + F n ≤ B * (n + 1)
    have a := su_bd (fun k hk => h k (Nat.lt_succ_of_lt hk))
    have b := h n (Nat.lt_succ_self n)
    rw [Nat.mul_add]; omega
def eWN (g : Nat → Nat) (b : Nat → Bool) (k : Nat) : Nat := if b k = true then 0 else g k
def pWN (g : Nat → Nat) (k : Nat) : Nat := if g k = 0 then 0 else 1
def cWN (g : Nat → Nat) (b : Nat → Bool) (k : Nat) : Nat := if b k = true then pWN g k else 0
def gNN (f : Nat → Int32) (k : Nat) : Nat := (f k).toInt.toNat
def NNf (f : Nat → Int32) : Prop := ∀ k, k < 8 → 0 ≤ (f k).toInt ∧ (f k).toInt ≤ 78408
theorem i32_0 : (0 : Int32).toInt = 0 := rfl
theorem li_nil {f : Nat → Int32} : ∀ {i : Nat}, liS f i = none → ∀ j, j < i → (f j).toInt ≤ 0
  | 0, _, j, hj => absurd hj (Nat.not_lt_zero _)
  | i + 1, h, j, hj => by
    unfold liS at h
    by_cases c : f i ≤ 0
    · rw [if_pos c] at h
      by_cases e : j = i
      · have h2 := Int32.le_iff_toInt_le.mp c
        rw [i32_0] at h2
        rw [e]; exact h2
      · exact li_nil h j (by omega)
    · rw [if_neg c] at h
      rcases hl : liS f i with _ | k
      · rw [hl] at h; cases h
      · rw [hl] at h
        have h2 : (if f k ≤ f i then some k else some i) = none := h
        split at h2 <;> cases h2
theorem li_min {f : Nat → Int32} : ∀ {i k : Nat}, liS f i = some k → 0 < (f k).toInt ∧ ∀ j, j < i → 0 < (f j).toInt → (f k).toInt ≤ (f j).toInt
  | 0, k, h => by cases h
  | i + 1, k, h => by
    unfold liS at h
    by_cases c : f i ≤ 0
    · rw [if_pos c] at h
      obtain ⟨a, b⟩ := li_min h
      refine ⟨a, fun j hj p => ?_⟩
      by_cases e : j = i
      · subst e
        have h2 := Int32.le_iff_toInt_le.mp c
        rw [i32_0] at h2
        omega
      · exact b j (by omega) p
    · rw [if_neg c] at h
      have c' : 0 < (f i).toInt := by
        have h2 : ¬ (f i).toInt ≤ (0 : Int32).toInt := fun e => c (Int32.le_iff_toInt_le.mpr e)
        rw [i32_0] at h2
        omega
      rcases hl : liS f i with _ | k0
      · rw [hl] at h
        have e2 : i = k := Option.some.inj h
        subst e2
        refine ⟨c', fun j hj p => ?_⟩
        by_cases e : j = i
        · rw [e]; exact Int.le_refl _
        · have := li_nil hl j (by omega)
          omega
      · rw [hl] at h
        obtain ⟨a, b⟩ := li_min hl
        have h2 : (if f k0 ≤ f i then some k0 else some i) = some k := h
        by_cases c2 : f k0 ≤ f i
        · rw [if_pos c2] at h2
          have e2 := Option.some.inj h2
          subst e2
          refine ⟨a, fun j hj p => ?_⟩
          by_cases e : j = i
          · rw [e]; exact Int32.le_iff_toInt_le.mp c2
          · exact b j (by omega) p
        · rw [if_neg c2] at h2
          have e2 := Option.some.inj h2
          subst e2
          have c3 : ¬ (f k0).toInt ≤ (f i).toInt := fun e => c2 (Int32.le_iff_toInt_le.mpr e)
          refine ⟨c', fun j hj p => ?_⟩
          by_cases e : j = i
          · rw [e]; exact Int.le_refl _
          · have := b j (by omega) p
            omega
theorem nI_prd {a b : Nat} (h : b + 1 = a) : nI a + -1 = nI b := by
  have e3 := nI_add b 1
  rw [h] at e3
  rw [← e3]
  have e4 : nI 1 = 1 := rfl
  rw [e4]
  apply Int32.toInt_inj.mp
  rw [Int32.add_assoc]
  have e5 : (1 : Int32) + -1 = 0 := by decide
  rw [e5, Int32.add_zero]
/-- leaving out the least: what is left is enough, and nothing less is -/
theorem fb_opt : ∀ (n : Nat) (f : Nat → Int32) (al : Int32), NNf f → 0 ≤ al.toInt → al.toInt ≤ 9999999 → suN (pWN (gNN f)) 8 ≤ n →
    ∃ N, fbR n f al (nI (suN (pWN (gNN f)) 8)) = nI N ∧ N ≤ suN (pWN (gNN f)) 8 ∧ (∃ b, suN (eWN (gNN f) b) 8 ≤ al.toInt.toNat ∧ suN (cWN (gNN f) b) 8 = N) ∧ ∀ b, suN (eWN (gNN f) b) 8 ≤ al.toInt.toNat → N ≤ suN (cWN (gNN f) b) 8
  | 0, f, al, hf, a1, a2, hp => by
    refine ⟨suN (pWN (gNN f)) 8, rfl, Nat.le_refl _, ⟨fun _ => true, ?_, ?_⟩, fun b _ => by omega⟩
    · rw [su_zero (fun k _ => by unfold eWN; rw [if_pos rfl])]; omega
    · exact su_congr (fun k _ => by unfold cWN; rw [if_pos rfl])
  | n + 1, f, al, hf, a1, a2, hp => by
    rcases hl : liS f 8 with _ | w
    · have hz : ∀ k, k < 8 → gNN f k = 0 := fun k hk => by
        have := li_nil hl k hk
        unfold gNN; omega
      have hp0 : suN (pWN (gNN f)) 8 = 0 := su_zero (fun k hk => by unfold pWN; rw [if_pos (hz k hk)])
      refine ⟨0, ?_, Nat.zero_le _, ⟨fun _ => true, ?_, ?_⟩, fun b _ => Nat.zero_le _⟩
      · unfold fbR; rw [hl, hp0]
      · rw [su_zero (fun k _ => by unfold eWN; rw [if_pos rfl])]; omega
      · rw [su_zero (fun k hk => by unfold cWN pWN; rw [if_pos rfl, if_pos (hz k hk)])]
    · have hw := li_lt hl
      obtain ⟨m1, m2⟩ := li_min hl
      have hgw : (gNN f w : Int) = (f w).toInt := by unfold gNN; omega
      have hgp : ¬ gNN f w = 0 := by omega
      have hmin : ∀ k, k < 8 → ¬ gNN f k = 0 → gNN f w ≤ gNN f k := fun k hk hk0 => by
        have h1 := m2 k hk (by unfold gNN at hk0; omega)
        unfold gNN; omega
      have hal : (al.toInt.toNat : Int) = al.toInt := by omega
      by_cases c : f w ≤ al
      · have c' := Int32.le_iff_toInt_le.mp c
        have hg' : ∀ k, gNN (upd f w 0) k = if k = w then 0 else gNN f k := fun k => by
          unfold gNN upd
          by_cases e : k = w
          · rw [if_pos e, if_pos e]; rfl
          · rw [if_neg e, if_neg e]
        have hgn : ∀ k, k ≠ w → gNN (upd f w 0) k = gNN f k := fun k e => by rw [hg', if_neg e]
        have hgz : gNN (upd f w 0) w = 0 := by rw [hg', if_pos rfl]
        have hf' : NNf (upd f w 0) := fun k hk => by
          unfold upd
          by_cases e : k = w
          · rw [if_pos e]; decide
          · rw [if_neg e]; exact hf k hk
        have hp' : suN (pWN (gNN (upd f w 0))) 8 + 1 = suN (pWN (gNN f)) 8 := by
          have h1 := su_ch (F := pWN (gNN (upd f w 0))) (G := pWN (gNN f)) hw (fun k _ hk => by unfold pWN; rw [hgn k hk])
          have e1 : pWN (gNN f) w = 1 := by unfold pWN; rw [if_neg hgp]
          have e2 : pWN (gNN (upd f w 0)) w = 0 := by unfold pWN; rw [if_pos hgz]
          omega
        have hsub : (al - f w).toInt = al.toInt - (f w).toInt := by
          rw [Int32.toInt_sub, Int.bmod_eq_of_le] <;> omega
        obtain ⟨N, h1, h2, ⟨b, b1, b2⟩, h4⟩ := fb_opt n (upd f w 0) (al - f w) hf' (by omega) (by omega) (by omega)
        have key : ∀ b : Nat → Bool, b w = false → suN (eWN (gNN f) b) 8 ≤ al.toInt.toNat → N ≤ suN (cWN (gNN f) b) 8 := fun b hb0 hb => by
          have hb1 : ¬ b w = true := by rw [hb0]; decide
          have e1 := su_ch (F := eWN (gNN (upd f w 0)) b) (G := eWN (gNN f) b) hw (fun k _ hk => by unfold eWN; rw [hgn k hk])
          have e2 : eWN (gNN f) b w = gNN f w := by unfold eWN; rw [if_neg hb1]
          have e3 : eWN (gNN (upd f w 0)) b w = 0 := by unfold eWN; rw [if_neg hb1, hgz]
          have e4 := su_ch (F := cWN (gNN (upd f w 0)) b) (G := cWN (gNN f) b) hw (fun k _ hk => by unfold cWN pWN; rw [hgn k hk])
          have e5 : cWN (gNN f) b w = 0 := by unfold cWN; rw [if_neg hb1]
          have e6 : cWN (gNN (upd f w 0)) b w = 0 := by unfold cWN; rw [if_neg hb1]
          have h5 := h4 b (by omega)
          omega
        refine ⟨N, ?_, by omega, ⟨fun k => if k = w then false else b k, ?_, ?_⟩, fun b hb => ?_⟩
        · unfold fbR
          rw [hl]
          show (if f w ≤ al then fbR n (upd f w 0) (al - f w) (nI (suN (pWN (gNN f)) 8) + -1) else nI (suN (pWN (gNN f)) 8)) = nI N
          rw [if_pos c, nI_prd hp']
          exact h1
        · have e1 := su_ch (F := eWN (gNN f) (fun k => if k = w then false else b k)) (G := eWN (gNN (upd f w 0)) b) hw (fun k _ hk => by
            show (if (if k = w then false else b k) = true then 0 else gNN f k) = if b k = true then 0 else gNN (upd f w 0) k
            rw [if_neg hk, hgn k hk])
          have e2 : eWN (gNN f) (fun k => if k = w then false else b k) w = gNN f w := by
            show (if (if w = w then false else b w) = true then 0 else gNN f w) = gNN f w
            rw [if_pos rfl, if_neg (by decide)]
          have e3 : eWN (gNN (upd f w 0)) b w = 0 := by
            unfold eWN
            split
            · rfl
            · exact hgz
          omega
        · have e1 := su_ch (F := cWN (gNN f) (fun k => if k = w then false else b k)) (G := cWN (gNN (upd f w 0)) b) hw (fun k _ hk => by
            show (if (if k = w then false else b k) = true then pWN (gNN f) k else 0) = if b k = true then pWN (gNN (upd f w 0)) k else 0
            unfold pWN
            rw [if_neg hk, hgn k hk])
          have e2 : cWN (gNN f) (fun k => if k = w then false else b k) w = 0 := by
            show (if (if w = w then false else b w) = true then pWN (gNN f) w else 0) = 0
            rw [if_pos rfl, if_neg (by decide)]
          have e3 : cWN (gNN (upd f w 0)) b w = 0 := by
            unfold cWN pWN
            rw [if_pos hgz]
            split <;> rfl
          omega
        · by_cases cw : b w = true
          · have f1 := su_ch (F := eWN (gNN f) (fun k => if k = w then false else b k)) (G := eWN (gNN f) b) hw (fun k _ hk => by
              show (if (if k = w then false else b k) = true then 0 else gNN f k) = if b k = true then 0 else gNN f k
              rw [if_neg hk])
            have f2 : eWN (gNN f) (fun k => if k = w then false else b k) w = gNN f w := by
              show (if (if w = w then false else b w) = true then 0 else gNN f w) = gNN f w
              rw [if_pos rfl, if_neg (by decide)]
            have f3 : eWN (gNN f) b w = 0 := by unfold eWN; rw [if_pos cw]
            have k1 := su_ch (F := cWN (gNN f) (fun k => if k = w then false else b k)) (G := cWN (gNN f) b) hw (fun k _ hk => by
              show (if (if k = w then false else b k) = true then pWN (gNN f) k else 0) = if b k = true then pWN (gNN f) k else 0
              rw [if_neg hk])
            have k2 : cWN (gNN f) (fun k => if k = w then false else b k) w = 0 := by
              show (if (if w = w then false else b w) = true then pWN (gNN f) w else 0) = 0
              rw [if_pos rfl, if_neg (by decide)]
            have k3 : cWN (gNN f) b w = 1 := by unfold cWN pWN; rw [if_pos cw, if_neg hgp]
            by_cases ex : ∃ j, j < 8 ∧ b j = false ∧ ¬ gNN f j = 0
            · obtain ⟨j, hj, bj, gj⟩ := ex
              have hjw : j ≠ w := fun e => by rw [e, cw] at bj; cases bj
              have g1 := su_ch (F := eWN (gNN f) (fun k => if k = j then true else if k = w then false else b k)) (G := eWN (gNN f) (fun k => if k = w then false else b k)) hj (fun k _ hk => by
                show (if (if k = j then true else if k = w then false else b k) = true then 0 else gNN f k) = if (if k = w then false else b k) = true then 0 else gNN f k
                rw [if_neg hk])
              have g2 : eWN (gNN f) (fun k => if k = j then true else if k = w then false else b k) j = 0 := by
                show (if (if j = j then true else if j = w then false else b j) = true then 0 else gNN f j) = 0
                rw [if_pos rfl, if_pos rfl]
              have g3 : eWN (gNN f) (fun k => if k = w then false else b k) j = gNN f j := by
                show (if (if j = w then false else b j) = true then 0 else gNN f j) = gNN f j
                rw [if_neg hjw, bj, if_neg (by decide)]
              have n1 := su_ch (F := cWN (gNN f) (fun k => if k = j then true else if k = w then false else b k)) (G := cWN (gNN f) (fun k => if k = w then false else b k)) hj (fun k _ hk => by
                show (if (if k = j then true else if k = w then false else b k) = true then pWN (gNN f) k else 0) = if (if k = w then false else b k) = true then pWN (gNN f) k else 0
                rw [if_neg hk])
              have n2 : cWN (gNN f) (fun k => if k = j then true else if k = w then false else b k) j = 1 := by
                show (if (if j = j then true else if j = w then false else b j) = true then pWN (gNN f) j else 0) = 1
                unfold pWN
                rw [if_pos rfl, if_pos rfl, if_neg gj]
              have n3 : cWN (gNN f) (fun k => if k = w then false else b k) j = 0 := by
                show (if (if j = w then false else b j) = true then pWN (gNN f) j else 0) = 0
                rw [if_neg hjw, bj, if_neg (by decide)]
              have hm := hmin j hj gj
              have h5 := key (fun k => if k = j then true else if k = w then false else b k) (by
                show (if w = j then true else if w = w then false else b w) = false
                rw [if_neg (fun e => hjw e.symm), if_pos rfl]) (by omega)
              omega
            · have hz : suN (eWN (gNN f) b) 8 = 0 := su_zero (fun k hk => by
                unfold eWN
                split
                · rfl
                · rename_i hb1
                  exact Decidable.byContradiction fun h0 => ex ⟨k, hk, by simpa using hb1, h0⟩)
              have h5 := key (fun k => if k = w then false else b k) (by
                show (if w = w then false else b w) = false
                rw [if_pos rfl]) (by omega)
              omega
          · exact key b (by simpa using cw) hb
      · have c' : ¬ (f w).toInt ≤ al.toInt := fun e => c (Int32.le_iff_toInt_le.mpr e)
        refine ⟨suN (pWN (gNN f)) 8, ?_, Nat.le_refl _, ⟨fun _ => true, ?_, ?_⟩, fun b hb => ?_⟩
        · unfold fbR
          rw [hl]
          show (if f w ≤ al then fbR n (upd f w 0) (al - f w) (nI (suN (pWN (gNN f)) 8) + -1) else nI (suN (pWN (gNN f)) 8)) = _
          rw [if_neg c]
        · rw [su_zero (fun k _ => by unfold eWN; rw [if_pos rfl])]; omega
        · exact su_congr (fun k _ => by unfold cWN; rw [if_pos rfl])
        · have e : suN (pWN (gNN f)) 8 = suN (cWN (gNN f) b) 8 := su_congr (fun k hk => by
            unfold cWN
            split
            · rfl
            · rename_i hb1
              unfold pWN
              by_cases h0 : gNN f k = 0
              · rw [if_pos h0]
              · exfalso
                have h1 := hmin k hk h0
                have h2 := su_at (F := eWN (gNN f) b) hk
                have h3 : eWN (gNN f) b k = gNN f k := by unfold eWN; rw [if_neg hb1]
                omega)
          omega

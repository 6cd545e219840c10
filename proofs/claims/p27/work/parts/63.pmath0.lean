/-! bounds of the traces; the counts are the same, told both ways -/
def BdA (d : Nat → Int32) : Prop := ∀ k, k < 8 → -99 ≤ (d k).toInt ∧ (d k).toInt ≤ 99
theorem wv_pm (k n : Nat) : wv k n = 1 ∨ wv k n = -1 := by
  unfold wv
  split
  · exact Or.inl rfl
  · exact Or.inr rfl
theorem mul_pm {x y : Int32} (hy : y = 1 ∨ y = -1) (h1 : -99 ≤ x.toInt) (h2 : x.toInt ≤ 99) : -99 ≤ (x * y).toInt ∧ (x * y).toInt ≤ 99 := by
  rw [Int32.toInt_mul]
  rcases hy with rfl | rfl
  · have e : (1 : Int32).toInt = 1 := rfl
    rw [e, Int.bmod_eq_of_le] <;> omega
  · have e : (-1 : Int32).toInt = -1 := rfl
    rw [e, Int.bmod_eq_of_le] <;> omega
theorem tr_bd {d : Nat → Int32} (h : BdA d) (n : Nat) : ∀ i : Nat, i ≤ 8 → -(99 * (i : Int)) ≤ (trS d n i).toInt ∧ (trS d n i).toInt ≤ 99 * (i : Int)
  | 0, _ => by
    have e : (trS d n 0).toInt = 0 := rfl
    rw [e]; omega
  | i + 1, hi => by
    have h1 := tr_bd h n i (by omega)
    have h2 := mul_pm (wv_pm i n) (h i (by omega)).1 (h i (by omega)).2
    have e : (trS d n (i + 1)).toInt = (trS d n i + d i * wv i n).toInt := rfl
    rw [e, Int32.toInt_add, Int.bmod_eq_of_le] <;> omega
theorem tr_792 {d : Nat → Int32} (h : BdA d) (n : Nat) : -792 ≤ (trS d n 8).toInt ∧ (trS d n 8).toInt ≤ 792 := by
  have h1 := tr_bd h n 8 (Nat.le_refl 8)
  omega
theorem gt_792 {d : Nat → Int32} (h : BdA d) : ∀ i, -792 ≤ (gtS d i).toInt ∧ (gtS d i).toInt ≤ 792
  | 0 => tr_792 h 0
  | i + 1 => by
    unfold gtS
    split
    · exact tr_792 h _
    · exact gt_792 h i
theorem lt_792 {d : Nat → Int32} (h : BdA d) : ∀ i, -792 ≤ (ltS d i).toInt ∧ (ltS d i).toInt ≤ 792
  | 0 => tr_792 h 0
  | i + 1 => by
    unfold ltS
    split
    · exact tr_792 h _
    · exact lt_792 h i
theorem lt_gt {d : Nat → Int32} : ∀ i, (ltS d i).toInt ≤ (trS d 0 8).toInt ∧ (trS d 0 8).toInt ≤ (gtS d i).toInt
  | 0 => ⟨Int.le_refl _, Int.le_refl _⟩
  | i + 1 => by
    have h := lt_gt (d := d) i
    constructor
    · unfold ltS
      split
      · rename_i c; have := Int32.lt_iff_toInt_lt.mp c; omega
      · exact h.1
    · unfold gtS
      split
      · rename_i c; have := Int32.lt_iff_toInt_lt.mp c; omega
      · exact h.2
theorem neg_I {x : Int32} (h1 : -99999 ≤ x.toInt) (h2 : x.toInt ≤ 99999) : (-x).toInt = -x.toInt := by
  rw [Int32.toInt_neg, Int.bmod_eq_of_le] <;> omega
theorem ab_I {x : Int32} (h1 : -99999 ≤ x.toInt) (h2 : x.toInt ≤ 99999) : (abI x).toInt = if 0 ≤ x.toInt then x.toInt else -x.toInt := by
  have e : (0 : Int32).toInt = 0 := rfl
  unfold abI
  by_cases c : (0 : Int32) ≤ x
  · have := Int32.le_iff_toInt_le.mp c
    rw [if_pos c, if_pos (by omega)]
  · have c2 : ¬ 0 ≤ x.toInt := fun h => c (Int32.le_iff_toInt_le.mpr (by omega))
    rw [if_neg c, if_neg c2, Int32.zero_sub, neg_I h1 h2]
theorem rl_ov0 {g l : Int32} (g1 : -792 ≤ g.toInt) (g2 : g.toInt ≤ 792) (l1 : -792 ≤ l.toInt) (l2 : l.toInt ≤ 792) (h : l.toInt ≤ g.toInt) : (if g < -l then -l else g) = if abI g ≤ abI l then abI l else abI g := by
  apply Int32.toInt_inj.mp
  have hg := ab_I (x := g) (by omega) (by omega)
  have hl := ab_I (x := l) (by omega) (by omega)
  have hn := neg_I (x := l) (by omega) (by omega)
  by_cases c : g < -l <;> by_cases c2 : abI g ≤ abI l
  all_goals
    have c' := c
    have c2' := c2
    rw [Int32.lt_iff_toInt_lt, hn] at c'
    rw [Int32.le_iff_toInt_le, hg, hl] at c2'
  · rw [if_pos c, if_pos c2, hl, hn]; split at c2' <;> split at c2' <;> omega
  · rw [if_pos c, if_neg c2, hg, hn]; split at c2' <;> split at c2' <;> omega
  · rw [if_neg c, if_pos c2, hl]; split at c2' <;> split at c2' <;> omega
  · rw [if_neg c, if_neg c2, hg]; split at c2' <;> split at c2' <;> omega
theorem bc_lo0 : ∀ m, m < 256 → bcF (nI m) = 0 + lbI m 0 + lbI m 1 + lbI m 2 + lbI m 3 + lbI m 4 + lbI m 5 + lbI m 6 + lbI m 7 := by decide +kernel
theorem sq_9801 {a : Int} (h1 : -99 ≤ a) (h2 : a ≤ 99) : 0 ≤ a * a ∧ a * a ≤ 9801 := by
  have e : a * a = ((a.natAbs * a.natAbs : Nat) : Int) := (Int.natAbs_mul_self (a := a)).symm
  have h : a.natAbs ≤ 99 := by omega
  have h3 : a.natAbs * a.natAbs ≤ 99 * 99 := Nat.mul_le_mul h h
  rw [e]
  constructor <;> omega
theorem sq_I {x : Int32} (h1 : -99 ≤ x.toInt) (h2 : x.toInt ≤ 99) : (8 * x * x).toInt = 8 * (x.toInt * x.toInt) := by
  have hb := sq_9801 h1 h2
  have e8 : (8 : Int32).toInt = 8 := rfl
  have e1 : (8 * x).toInt = 8 * x.toInt := by
    rw [Int32.toInt_mul, e8, Int.bmod_eq_of_le] <;> omega
  have e2 : 8 * x.toInt * x.toInt = 8 * (x.toInt * x.toInt) := Int.mul_assoc _ _ _
  rw [Int32.toInt_mul, e1, e2, Int.bmod_eq_of_le] <;> omega
theorem sq_pos {x : Int32} (h1 : -99 ≤ x.toInt) (h2 : x.toInt ≤ 99) (hx : ¬ x = 0) : ¬ 8 * x * x ≤ 0 := fun h => by
  rw [Int32.le_iff_toInt_le, sq_I h1 h2] at h
  have e0 : (0 : Int32).toInt = 0 := rfl
  rw [e0] at h
  have hb := sq_9801 h1 h2
  have hz : x.toInt * x.toInt = 0 := by omega
  have hx0 : x.toInt = 0 := by rcases Int.mul_eq_zero.mp hz with e | e <;> exact e
  exact hx (Int32.toInt_inj.mp (by rw [hx0, e0]))
/-! sums over places, sets of places: the fewest of all sets is the fewest by leaving out the least -/
def suN (F : Nat → Nat) : Nat → Nat
  | 0 => 0
  | n + 1 => suN F n + F n
theorem su_congr {F G : Nat → Nat} : ∀ {n : Nat}, (∀ k, k < n → F k = G k) → suN F n = suN G n
  | 0, _ => rfl
  | n + 1, h => by
    show suN F n + F n = suN G n + G n
    rw [su_congr (fun k hk => h k (Nat.lt_succ_of_lt hk)), h n (Nat.lt_succ_self n)]
theorem su_zero {F : Nat → Nat} : ∀ {n : Nat}, (∀ k, k < n → F k = 0) → suN F n = 0
  | 0, _ => rfl
  | n + 1, h => by
    show suN F n + F n = 0
    rw [su_zero (fun k hk => h k (Nat.lt_succ_of_lt hk)), h n (Nat.lt_succ_self n)]
theorem su_ch {F G : Nat → Nat} {w : Nat} : ∀ {n : Nat}, w < n → (∀ k, k < n → k ≠ w → F k = G k) → suN F n + G w = suN G n + F w
  | 0, h, _ => absurd h (Nat.not_lt_zero _)
  | n + 1, h, e => by
    show suN F n + F n + G w = suN G n + G n + F w
    by_cases c : w = n
    · subst c
      rw [su_congr (fun k hk => e k (Nat.lt_succ_of_lt hk) (by omega))]
      omega
    · have a := su_ch (n := n) (by omega) (fun k hk => e k (Nat.lt_succ_of_lt hk))
      have b := e n (Nat.lt_succ_self n) (fun h => c h.symm)
      omega
theorem su_at {F : Nat → Nat} : ∀ {n k : Nat}, k < n → F k ≤ suN F n
  | 0, _, h => absurd h (Nat.not_lt_zero _)
  | n + 1, k, h => by
    show F k ≤ suN F n + F n
    by_cases c : k = n
    · rw [c]; omega
    · have := su_at (F := F) (n := n) (k := k) (by omega)
      omega
theorem su_bd {F : Nat → Nat} {B : Nat} : ∀ {n : Nat}, (∀ k, k < n → F k ≤ B) → suN F n ≤ B * n
  | 0, _ => Nat.le_refl _
  | n + 1, h => by
    show suN F n + F n ≤ B * (n + 1)
    have a := su_bd (fun k hk => h k (Nat.lt_succ_of_lt hk))
    have b := h n (Nat.lt_succ_self n)
    rw [Nat.mul_add]; omega
def eWN (g : Nat → Nat) (b : Nat → Bool) (k : Nat) : Nat := if b k = true then 0 else g k
def pWN (g : Nat → Nat) (k : Nat) : Nat := if g k = 0 then 0 else 1
def cWN (g : Nat → Nat) (b : Nat → Bool) (k : Nat) : Nat := if b k = true then pWN g k else 0
def gNN (f : Nat → Int32) (k : Nat) : Nat := (f k).toInt.toNat
def NNf (f : Nat → Int32) : Prop := ∀ k, k < 8 → 0 ≤ (f k).toInt ∧ (f k).toInt ≤ 78408
theorem i32_0 : (0 : Int32).toInt = 0 := rfl
theorem li_nil {f : Nat → Int32} : ∀ {i : Nat}, liS f i = none → ∀ j, j < i → (f j).toInt ≤ 0
  | 0, _, j, hj => absurd hj (Nat.not_lt_zero _)
  | i + 1, h, j, hj => by
    unfold liS at h
    by_cases c : f i ≤ 0
    · rw [if_pos c] at h
      by_cases e : j = i
      · have h2 := Int32.le_iff_toInt_le.mp c
        rw [i32_0] at h2
        rw [e]; exact h2
      · exact li_nil h j (by omega)
    · rw [if_neg c] at h
      rcases hl : liS f i with _ | k
      · rw [hl] at h; cases h
      · rw [hl] at h
        have h2 : (if f k ≤ f i then some k else some i) = none := h
        split at h2 <;> cases h2
theorem li_min {f : Nat → Int32} : ∀ {i k : Nat}, liS f i = some k → 0 < (f k).toInt ∧ ∀ j, j < i → 0 < (f j).toInt → (f k).toInt ≤ (f j).toInt
  | 0, k, h => by cases h
  | i + 1, k, h => by
    unfold liS at h
    by_cases c : f i ≤ 0
    · rw [if_pos c] at h
      obtain ⟨a, b⟩ := li_min h
      refine ⟨a, fun j hj p => ?_⟩
      by_cases e : j = i
      · subst e
        have h2 := Int32.le_iff_toInt_le.mp c
        rw [i32_0] at h2
        omega
      · exact b j (by omega) p
    · rw [if_neg c] at h
      have c' : 0 < (f i).toInt := by
        have h2 : ¬ (f i).toInt ≤ (0 : Int32).toInt := fun e => c (Int32.le_iff_toInt_le.mpr e)
        rw [i32_0] at h2
        omega
      rcases hl : liS f i with _ | k0
      · rw [hl] at h
        have e2 : i = k := Option.some.inj h
        subst e2
        refine ⟨c', fun j hj p => ?_⟩
        by_cases e : j = i
        · rw [e]; exact Int.le_refl _
        · have := li_nil hl j (by omega)
          omega
      · rw [hl] at h
        obtain ⟨a, b⟩ := li_min hl
        have h2 : (if f k0 ≤ f i then some k0 else some i) = some k := h
        by_cases c2 : f k0 ≤ f i
        · rw [if_pos c2] at h2
          have e2 := Option.some.inj h2
          subst e2
          refine ⟨a, fun j hj p => ?_⟩
          by_cases e : j = i
          · rw [e]; exact Int32.le_iff_toInt_le.mp c2
          · exact b j (by omega) p
        · rw [if_neg c2] at h2
          have e2 := Option.some.inj h2
          subst e2
          have c3 : ¬ (f k0).toInt ≤ (f i).toInt := fun e => c2 (Int32.le_iff_toInt_le.mpr e)
          refine ⟨c', fun j hj p => ?_⟩
          by_cases e : j = i
          · rw [e]; exact Int.le_refl _
          · have := b j (by omega) p
            omega
theorem nI_prd {a b : Nat} (h : b + 1 = a) : nI a + -1 = nI b := by
  have e3 := nI_add b 1
  rw [h] at e3
  rw [← e3]
  have e4 : nI 1 = 1 := rfl
  rw [e4]
  apply Int32.toInt_inj.mp
  rw [Int32.add_assoc]
  have e5 : (1 : Int32) + -1 = 0 := by decide
  rw [e5, Int32.add_zero]
/-- leaving out the least: what is left is enough, and nothing less is -/
theorem fb_opt : ∀ (n : Nat) (f : Nat → Int32) (al : Int32), NNf f → 0 ≤ al.toInt → al.toInt ≤ 9999999 → suN (pWN (gNN f)) 8 ≤ n →
    ∃ N, fbR n f al (nI (suN (pWN (gNN f)) 8)) = nI N ∧ N ≤ suN (pWN (gNN f)) 8 ∧ (∃ b, suN (eWN (gNN f) b) 8 ≤ al.toInt.toNat ∧ suN (cWN (gNN f) b) 8 = N) ∧ ∀ b, suN (eWN (gNN f) b) 8 ≤ al.toInt.toNat → N ≤ suN (cWN (gNN f) b) 8
  | 0, f, al, hf, a1, a2, hp => by
    refine ⟨suN (pWN (gNN f)) 8, rfl, Nat.le_refl _, ⟨fun _ => true, ?_, ?_⟩, fun b _ => by omega⟩
    · rw [su_zero (fun k _ => by unfold eWN; rw [if_pos rfl])]; omega
    · exact su_congr (fun k _ => by unfold cWN; rw [if_pos rfl])
  | n + 1, f, al, hf, a1, a2, hp => by
    rcases hl : liS f 8 with _ | w
    · have hz : ∀ k, k < 8 → gNN f k = 0 := fun k hk => by
        have := li_nil hl k hk
        unfold gNN; omega
      have hp0 : suN (pWN (gNN f)) 8 = 0 := su_zero (fun k hk => by unfold pWN; rw [if_pos (hz k hk)])
      refine ⟨0, ?_, Nat.zero_le _, ⟨fun _ => true, ?_, ?_⟩, fun b _ => Nat.zero_le _⟩
      · unfold fbR; rw [hl, hp0]
      · rw [su_zero (fun k _ => by unfold eWN; rw [if_pos rfl])]; omega
      · rw [su_zero (fun k hk => by unfold cWN pWN; rw [if_pos rfl, if_pos (hz k hk)])]
    · have hw := li_lt hl
      obtain ⟨m1, m2⟩ := li_min hl
      have hgw : (gNN f w : Int) = (f w).toInt := by unfold gNN; omega
      have hgp : ¬ gNN f w = 0 := by omega
      have hmin : ∀ k, k < 8 → ¬ gNN f k = 0 → gNN f w ≤ gNN f k := fun k hk hk0 => by
        have h1 := m2 k hk (by unfold gNN at hk0; omega)
        unfold gNN; omega
      have hal : (al.toInt.toNat : Int) = al.toInt := by omega
      by_cases c : f w ≤ al
      · have c' := Int32.le_iff_toInt_le.mp c
        have hg' : ∀ k, gNN (upd f w 0) k = if k = w then 0 else gNN f k := fun k => by
          unfold gNN upd
          by_cases e : k = w
          · rw [if_pos e, if_pos e]; rfl
          · rw [if_neg e, if_neg e]
        have hgn : ∀ k, k ≠ w → gNN (upd f w 0) k = gNN f k := fun k e => by rw [hg', if_neg e]
        have hgz : gNN (upd f w 0) w = 0 := by rw [hg', if_pos rfl]
        have hf' : NNf (upd f w 0) := fun k hk => by
          unfold upd
          by_cases e : k = w
          · rw [if_pos e]; decide
          · rw [if_neg e]; exact hf k hk
        have hp' : suN (pWN (gNN (upd f w 0))) 8 + 1 = suN (pWN (gNN f)) 8 := by
          have h1 := su_ch (F := pWN (gNN (upd f w 0))) (G := pWN (gNN f)) hw (fun k _ hk => by unfold pWN; rw [hgn k hk])
          have e1 : pWN (gNN f) w = 1 := by unfold pWN; rw [if_neg hgp]
          have e2 : pWN (gNN (upd f w 0)) w = 0 := by unfold pWN; rw [if_pos hgz]
          omega
        have hsub : (al - f w).toInt = al.toInt - (f w).toInt := by
          rw [Int32.toInt_sub, Int.bmod_eq_of_le] <;> omega
        obtain ⟨N, h1, h2, ⟨b, b1, b2⟩, h4⟩ := fb_opt n (upd f w 0) (al - f w) hf' (by omega) (by omega) (by omega)
        have key : ∀ b : Nat → Bool, b w = false → suN (eWN (gNN f) b) 8 ≤ al.toInt.toNat → N ≤ suN (cWN (gNN f) b) 8 := fun b hb0 hb => by
          have hb1 : ¬ b w = true := by rw [hb0]; decide
          have e1 := su_ch (F := eWN (gNN (upd f w 0)) b) (G := eWN (gNN f) b) hw (fun k _ hk => by unfold eWN; rw [hgn k hk])
          have e2 : eWN (gNN f) b w = gNN f w := by unfold eWN; rw [if_neg hb1]
          have e3 : eWN (gNN (upd f w 0)) b w = 0 := by unfold eWN; rw [if_neg hb1, hgz]
          have e4 := su_ch (F := cWN (gNN (upd f w 0)) b) (G := cWN (gNN f) b) hw (fun k _ hk => by unfold cWN pWN; rw [hgn k hk])
          have e5 : cWN (gNN f) b w = 0 := by unfold cWN; rw [if_neg hb1]
          have e6 : cWN (gNN (upd f w 0)) b w = 0 := by unfold cWN; rw [if_neg hb1]
          have h5 := h4 b (by omega)
          omega
        refine ⟨N, ?_, by omega, ⟨fun k => if k = w then false else b k, ?_, ?_⟩, fun b hb => ?_⟩
        · unfold fbR
          rw [hl]
          show (if f w ≤ al then fbR n (upd f w 0) (al - f w) (nI (suN (pWN (gNN f)) 8) + -1) else nI (suN (pWN (gNN f)) 8)) = nI N
          rw [if_pos c, nI_prd hp']
          exact h1
        · have e1 := su_ch (F := eWN (gNN f) (fun k => if k = w then false else b k)) (G := eWN (gNN (upd f w 0)) b) hw (fun k _ hk => by
            show (if (if k = w then false else b k) = true then 0 else gNN f k) = if b k = true then 0 else gNN (upd f w 0) k
            rw [if_neg hk, hgn k hk])
          have e2 : eWN (gNN f) (fun k => if k = w then false else b k) w = gNN f w := by
            show (if (if w = w then false else b w) = true then 0 else gNN f w) = gNN f w
            rw [if_pos rfl, if_neg (by decide)]
          have e3 : eWN (gNN (upd f w 0)) b w = 0 := by
            unfold eWN
            split
            · rfl
            · exact hgz
          omega
        · have e1 := su_ch (F := cWN (gNN f) (fun k => if k = w then false else b k)) (G := cWN (gNN (upd f w 0)) b) hw (fun k _ hk => by
            show (if (if k = w then false else b k) = true then pWN (gNN f) k else 0) = if b k = true then pWN (gNN (upd f w 0)) k else 0
            unfold pWN
            rw [if_neg hk, hgn k hk])
          have e2 : cWN (gNN f) (fun k => if k = w then false else b k) w = 0 := by
            show (if (if w = w then false else b w) = true then pWN (gNN f) w else 0) = 0
            rw [if_pos rfl, if_neg (by decide)]
          have e3 : cWN (gNN (upd f w 0)) b w = 0 := by
            unfold cWN pWN
            rw [if_pos hgz]
            split <;> rfl
          omega
        · by_cases cw : b w = true
          · have f1 := su_ch (F := eWN (gNN f) (fun k => if k = w then false else b k)) (G := eWN (gNN f) b) hw (fun k _ hk => by
              show (if (if k = w then false else b k) = true then 0 else gNN f k) = if b k = true then 0 else gNN f k
              rw [if_neg hk])
            have f2 : eWN (gNN f) (fun k => if k = w then false else b k) w = gNN f w := by
              show (if (if w = w then false else b w) = true then 0 else gNN f w) = gNN f w
              rw [if_pos rfl, if_neg (by decide)]
            have f3 : eWN (gNN f) b w = 0 := by unfold eWN; rw [if_pos cw]
            have k1 := su_ch (F := cWN (gNN f) (fun k => if k = w then false else b k)) (G := cWN (gNN f) b) hw (fun k _ hk => by
              show (if (if k = w then false else b k) = true then pWN (gNN f) k else 0) = if b k = true then pWN (gNN f) k else 0
              rw [if_neg hk])
            have k2 : cWN (gNN f) (fun k => if k = w then false else b k) w = 0 := by
              show (if (if w = w then false else b w) = true then pWN (gNN f) w else 0) = 0
              rw [if_pos rfl, if_neg (by decide)]
            have k3 : cWN (gNN f) b w = 1 := by unfold cWN pWN; rw [if_pos cw, if_neg hgp]
            by_cases ex : ∃ j, j < 8 ∧ b j = false ∧ ¬ gNN f j = 0
            · obtain ⟨j, hj, bj, gj⟩ := ex
              have hjw : j ≠ w := fun e => by rw [e, cw] at bj; cases bj
              have g1 := su_ch (F := eWN (gNN f) (fun k => if k = j then true else if k = w then false else b k)) (G := eWN (gNN f) (fun k => if k = w then false else b k)) hj (fun k _ hk => by
                show (if (if k = j then true else if k = w then false else b k) = true then 0 else gNN f k) = if (if k = w then false else b k) = true then 0 else gNN f k
                rw [if_neg hk])
              have g2 : eWN (gNN f) (fun k => if k = j then true else if k = w then false else b k) j = 0 := by
                show (if (if j = j then true else if j = w then false else b j) = true then 0 else gNN f j) = 0
                rw [if_pos rfl, if_pos rfl]
              have g3 : eWN (gNN f) (fun k => if k = w then false else b k) j = gNN f j := by
                show (if (if j = w then false else b j) = true then 0 else gNN f j) = gNN f j
                rw [if_neg hjw, bj, if_neg (by decide)]
              have n1 := su_ch (F := cWN (gNN f) (fun k => if k = j then true else if k = w then false else b k)) (G := cWN (gNN f) (fun k => if k = w then false else b k)) hj (fun k _ hk => by
                show (if (if k = j then true else if k = w then false else b k) = true then pWN (gNN f) k else 0) = if (if k = w then false else b k) = true then pWN (gNN f) k else 0
                rw [if_neg hk])
              have n2 : cWN (gNN f) (fun k => if k = j then true else if k = w then false else b k) j = 1 := by
                show (if (if j = j then true else if j = w then false else b j) = true then pWN (gNN f) j else 0) = 1
                unfold pWN
                rw [if_pos rfl, if_pos rfl, if_neg gj]
              have n3 : cWN (gNN f) (fun k => if k = w then false else b k) j = 0 := by
                show (if (if j = w then false else b j) = true then pWN (gNN f) j else 0) = 0
                rw [if_neg hjw, bj, if_neg (by decide)]
              have hm := hmin j hj gj
              have h5 := key (fun k => if k = j then true else if k = w then false else b k) (by
                show (if w = j then true else if w = w then false else b w) = false
                rw [if_neg (fun e => hjw e.symm), if_pos rfl]) (by omega)
              omega
            · have hz : suN (eWN (gNN f) b) 8 = 0 := su_zero (fun k hk => by
                unfold eWN
                split
                · rfl
                · rename_i hb1
                  exact Decidable.byContradiction fun h0 => ex ⟨k, hk, by simpa using hb1, h0⟩)
              have h5 := key (fun k => if k = w then false else b k) (by
                show (if w = w then false else b w) = false
                rw [if_pos rfl]) (by omega)
              omega
          · exact key b (by simpa using cw) hb
      · have c' : ¬ (f w).toInt ≤ al.toInt := fun e => c (Int32.le_iff_toInt_le.mpr e)
        refine ⟨suN (pWN (gNN f)) 8, ?_, Nat.le_refl _, ⟨fun _ => true, ?_, ?_⟩, fun b hb => ?_⟩
        · unfold fbR
          rw [hl]
          show (if f w ≤ al then fbR n (upd f w 0) (al - f w) (nI (suN (pWN (gNN f)) 8) + -1) else nI (suN (pWN (gNN f)) 8)) = _
          rw [if_neg c]
        · rw [su_zero (fun k _ => by unfold eWN; rw [if_pos rfl])]; omega
        · exact su_congr (fun k _ => by unfold cWN; rw [if_pos rfl])
        · have e : suN (pWN (gNN f)) 8 = suN (cWN (gNN f) b) 8 := su_congr (fun k hk => by
            unfold cWN
            split
            · rfl
            · rename_i hb1
              unfold pWN
              by_cases h0 : gNN f k = 0
              · rw [if_pos h0]
              · exfalso
                have h1 := hmin k hk h0
                have h2 := su_at (F := eWN (gNN f) b) hk
                have h3 : eWN (gNN f) b k = gNN f k := by unfold eWN; rw [if_neg hb1]
                omega)
          omega
/-! the class's second way: all sets, as numbers with a bit for each wheel -/
def btN (K k : Nat) : Bool := decide (K / 2 ^ k % 2 = 1)
theorem bt_lb {K k : Nat} : (lbI K k = 0 ∧ btN K k = false) ∨ (¬ lbI K k = 0 ∧ btN K k = true) := by
  have h : K / 2 ^ k % 2 = 0 ∨ K / 2 ^ k % 2 = 1 := by omega
  unfold lbI btN
  rcases h with h | h
  · rw [h]; exact Or.inl ⟨rfl, by decide⟩
  · rw [h]; exact Or.inr ⟨by decide, by decide⟩
theorem bt_all : ∀ b0 b1 b2 b3 b4 b5 b6 b7 : Bool, (b0.toNat + 2 * b1.toNat + 4 * b2.toNat + 8 * b3.toNat + 16 * b4.toNat + 32 * b5.toNat + 64 * b6.toNat + 128 * b7.toNat) < 256 ∧
    ∀ k, k < 8 → btN (b0.toNat + 2 * b1.toNat + 4 * b2.toNat + 8 * b3.toNat + 16 * b4.toNat + 32 * b5.toNat + 64 * b6.toNat + 128 * b7.toNat) k = [b0, b1, b2, b3, b4, b5, b6, b7].getD k false := by decide +kernel
theorem bt_of (b : Nat → Bool) : ∃ j, j < 256 ∧ ∀ k, k < 8 → btN j k = b k := by
  have h := bt_all (b 0) (b 1) (b 2) (b 3) (b 4) (b 5) (b 6) (b 7)
  refine ⟨_, h.1, fun k hk => (h.2 k hk).trans ?_⟩
  rcases (show k = 0 ∨ k = 1 ∨ k = 2 ∨ k = 3 ∨ k = 4 ∨ k = 5 ∨ k = 6 ∨ k = 7 by omega) with e | e | e | e | e | e | e | e <;> (subst e; rfl)
section
variable {f : Nat → Int32}
theorem gn_I (hf : NNf f) {k : Nat} (hk : k < 8) : (gNN f k : Int) = (f k).toInt ∧ gNN f k ≤ 78408 := by
  have h := hf k hk
  unfold gNN
  omega
theorem gn_le (hf : NNf f) {k : Nat} (hk : k < 8) : (f k ≤ 0 ∧ pWN (gNN f) k = 0) ∨ (¬ f k ≤ 0 ∧ pWN (gNN f) k = 1) := by
  have h := gn_I hf hk
  unfold pWN
  by_cases c : f k ≤ 0
  · have c' := Int32.le_iff_toInt_le.mp c
    rw [i32_0] at c'
    exact Or.inl ⟨c, if_pos (by omega)⟩
  · have c' : ¬ (f k).toInt ≤ (0 : Int32).toInt := fun e => c (Int32.le_iff_toInt_le.mpr e)
    rw [i32_0] at c'
    exact Or.inr ⟨c, if_neg (by omega)⟩
theorem po_su (hf : NNf f) : ∀ i, i ≤ 8 → poS f i = nI (suN (pWN (gNN f)) i)
  | 0, _ => rfl
  | i + 1, hi => by
    show poS f i + (if f i ≤ 0 then 0 else 1) = nI (suN (pWN (gNN f)) i + pWN (gNN f) i)
    rw [po_su hf i (by omega)]
    rcases gn_le hf (k := i) (by omega) with ⟨c, e⟩ | ⟨c, e⟩
    · rw [if_pos c, e]; exact nI_add _ 0
    · rw [if_neg c, e]; exact nI_add _ 1
theorem ew_bd (hf : NNf f) (b : Nat → Bool) {i : Nat} (hi : i ≤ 8) : suN (eWN (gNN f) b) i ≤ 78408 * i := su_bd (fun k hk => by
  unfold eWN
  split
  · omega
  · exact (gn_I hf (by omega)).2)
theorem se_su (hf : NNf f) (K : Nat) : ∀ i, i ≤ 8 → (seE f K i).toInt = (suN (eWN (gNN f) (btN K)) i : Int)
  | 0, _ => rfl
  | i + 1, hi => by
    have h := se_su hf K i (by omega)
    have hb := ew_bd hf (btN K) (i := i) (by omega)
    have hg := gn_I hf (k := i) (by omega)
    show (if lbI K i = 0 then seE f K i + f i else seE f K i).toInt = ((suN (eWN (gNN f) (btN K)) i + eWN (gNN f) (btN K) i : Nat) : Int)
    unfold eWN at h hb ⊢
    rcases bt_lb (K := K) (k := i) with ⟨c, e⟩ | ⟨c, e⟩
    · rw [if_pos c, e, if_neg (by decide), Int32.toInt_add, h, Int.bmod_eq_of_le] <;> omega
    · rw [if_neg c, e, if_pos rfl, h]; omega
theorem sw_su (hf : NNf f) (K : Nat) : ∀ i, i ≤ 8 → seW f K i = nI (suN (cWN (gNN f) (btN K)) i)
  | 0, _ => rfl
  | i + 1, hi => by
    show (if lbI K i = 0 then seW f K i else if f i ≤ 0 then seW f K i else seW f K i + 1) = nI (suN (cWN (gNN f) (btN K)) i + cWN (gNN f) (btN K) i)
    rw [sw_su hf K i (by omega)]
    unfold cWN
    rcases bt_lb (K := K) (k := i) with ⟨c, e⟩ | ⟨c, e⟩
    · rw [if_pos c, e, if_neg (by decide)]; rfl
    · rw [if_neg c, e, if_pos rfl]
      rcases gn_le hf (k := i) (by omega) with ⟨c2, e2⟩ | ⟨c2, e2⟩
      · rw [if_pos c2, e2]; rfl
      · rw [if_neg c2, e2]; exact nI_add _ 1
theorem cwn_8 (b : Nat → Bool) : suN (cWN (gNN f) b) 8 ≤ 8 := su_bd (B := 1) (n := 8) (fun k hk => by
  unfold cWN pWN
  split
  · split <;> decide
  · decide)
theorem fa_opt (hf : NNf f) {x : Int32} (h1 : 0 ≤ x.toInt) (h2 : x.toInt ≤ 9999999) : ∀ K, ∃ M, faS f x K = nI M ∧ M ≤ 8 ∧ (∀ j, j < K → suN (eWN (gNN f) (btN j)) 8 ≤ x.toInt.toNat → M ≤ suN (cWN (gNN f) (btN j)) 8) ∧
    (M = 8 ∨ ∃ j, j < K ∧ suN (eWN (gNN f) (btN j)) 8 ≤ x.toInt.toNat ∧ M = suN (cWN (gNN f) (btN j)) 8)
  | 0 => ⟨8, rfl, Nat.le_refl _, fun j hj => absurd hj (Nat.not_lt_zero _), Or.inl rfl⟩
  | K + 1 => by
    obtain ⟨M, m1, m2, m3, m4⟩ := fa_opt hf h1 h2 K
    have he := se_su hf K 8 (Nat.le_refl 8)
    have hw := sw_su hf K 8 (Nat.le_refl 8)
    have hw8 := cwn_8 (f := f) (btN K)
    have hfa : faS f x (K + 1) = (if x < seE f K 8 then faS f x K else if faS f x K ≤ seW f K 8 then faS f x K else seW f K 8) := rfl
    rw [hfa]
    by_cases c : x < seE f K 8
    · have c' := Int32.lt_iff_toInt_lt.mp c
      rw [if_pos c]
      refine ⟨M, m1, m2, fun j hj hv => ?_, ?_⟩
      · by_cases e : j = K
        · subst e; omega
        · exact m3 j (by omega) hv
      · rcases m4 with e | ⟨j, j1, j2, j3⟩
        · exact Or.inl e
        · exact Or.inr ⟨j, by omega, j2, j3⟩
    · have c' : ¬ x.toInt < (seE f K 8).toInt := fun e => c (Int32.lt_iff_toInt_lt.mpr e)
      rw [if_neg c, m1, hw]
      have hle := nI_leI (a := M) (b := suN (cWN (gNN f) (btN K)) 8) (by omega) (by omega)
      by_cases c2 : nI M ≤ nI (suN (cWN (gNN f) (btN K)) 8)
      · rw [if_pos c2]
        have c3 := hle.mp c2
        refine ⟨M, rfl, m2, fun j hj hv => ?_, ?_⟩
        · by_cases e : j = K
          · subst e; exact c3
          · exact m3 j (by omega) hv
        · rcases m4 with e | ⟨j, j1, j2, j3⟩
          · exact Or.inl e
          · exact Or.inr ⟨j, by omega, j2, j3⟩
      · rw [if_neg c2]
        have c3 : ¬ M ≤ suN (cWN (gNN f) (btN K)) 8 := fun e => c2 (hle.mpr e)
        refine ⟨_, rfl, hw8, fun j hj hv => ?_, Or.inr ⟨K, by omega, by omega, rfl⟩⟩
        by_cases e : j = K
        · subst e; exact Nat.le_refl _
        · have := m3 j (by omega) hv
          omega
theorem fe_01 (hf : NNf f) {x : Int32} (h1 : 0 ≤ x.toInt) (h2 : x.toInt ≤ 9999999) : feF f x 1 = feF f x 0 := by
  have hp : suN (pWN (gNN f)) 8 ≤ 8 := su_bd (B := 1) (n := 8) (fun k hk => by unfold pWN; split <;> decide)
  obtain ⟨N, n1, n2, ⟨b, b1, b2⟩, n4⟩ := fb_opt 8 f x hf h1 h2 hp
  obtain ⟨M, m1, m2, m3, m4⟩ := fa_opt hf h1 h2 256
  obtain ⟨j, j1, j2⟩ := bt_of b
  have e1 : suN (eWN (gNN f) (btN j)) 8 = suN (eWN (gNN f) b) 8 := su_congr (fun k hk => by unfold eWN; rw [j2 k hk])
  have e2 : suN (cWN (gNN f) (btN j)) 8 = suN (cWN (gNN f) b) 8 := su_congr (fun k hk => by unfold cWN; rw [j2 k hk])
  have h3 := m3 j j1 (by omega)
  have h4 : N ≤ M := by
    rcases m4 with e | ⟨i, i1, i2, i3⟩
    · omega
    · have := n4 (btN i) i2
      omega
  have e : M = N := by omega
  show (if 1 = 0 then fbR 8 f x (poS f 8) else faS f x 256) = if 0 = 0 then fbR 8 f x (poS f 8) else faS f x 256
  rw [if_neg (by decide), if_pos rfl, m1, po_su hf 8 (Nat.le_refl 8), n1, e]
end

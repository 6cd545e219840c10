/-! the class's state and the reference's: the same wheels, saved states, snapshots, buffer -/
theorem up_ne {g : Nat → Int32} {j k : Nat} {v : Int32} (h : j ≠ k) : upd g k v j = g j := by unfold upd; rw [if_neg h]
theorem up_eq {g : Nat → Int32} {k : Nat} {v : Int32} : upd g k v k = v := by unfold upd; rw [if_pos rfl]
theorem ur_ne {S : Nat → Nat → Int32} {j k : Nat} {v : Nat → Int32} (h : j ≠ k) : updR S k v j = S j := by unfold updR; rw [if_neg h]
theorem ur_eq {S : Nat → Nat → Int32} {k : Nat} {v : Nat → Int32} : updR S k v k = v := by unfold updR; rw [if_pos rfl]
section
variable {J : Nat → Int32} {S : Nat → Nat → Int32} {h k : Nat}
theorem tk0_4 : tkI J 0 h 4 = J (4 + 2 * h) := by
  show upd (upd J 4 (J (4 + 2 * h))) 5 (J (5 + 2 * h)) 4 = _
  rw [up_ne (by decide), up_eq]
theorem tk0_5 : tkI J 0 h 5 = J (5 + 2 * h) := by
  show upd (upd J 4 (J (4 + 2 * h))) 5 (J (5 + 2 * h)) 5 = _
  rw [up_eq]
theorem tk0_o (h1 : k ≠ 4) (h2 : k ≠ 5) : tkI J 0 h k = J k := by
  show upd (upd J 4 (J (4 + 2 * h))) 5 (J (5 + 2 * h)) k = _
  rw [up_ne h2, up_ne h1]
theorem tr0_0 : tkR S 0 h 0 = S (2 * h) := by
  show updR (updR S 0 (S (2 * h))) 1 (S (1 + 2 * h)) 0 = _
  rw [ur_ne (by decide), ur_eq]
theorem tr0_1 : tkR S 0 h 1 = S (1 + 2 * h) := by
  show updR (updR S 0 (S (2 * h))) 1 (S (1 + 2 * h)) 1 = _
  rw [ur_eq]
theorem tr0_o (h1 : 2 ≤ k) : tkR S 0 h k = S k := by
  show updR (updR S 0 (S (2 * h))) 1 (S (1 + 2 * h)) k = _
  rw [ur_ne (by omega), ur_ne (by omega)]
end
def GrM (m : Nat) (I : Nat → Int32) (R : Nat → Nat → Int32) (g : Nat) (z : Nat → Int32) : Prop :=
  I (4 + 2 * g) = nI m ∧ RlW m z ∧ I (5 + 2 * g) = z 24 ∧ (∀ k, k < 8 → R (2 * g) k = z k) ∧ (∀ k, k < 8 → R (1 + 2 * g) k = z (16 + k)) ∧ BdA z
def GrW (I : Nat → Int32) (R : Nat → Nat → Int32) (g : Nat) (z : Nat → Int32) : Prop := ∃ m, GrM m I R g z
theorem gm_congr {m : Nat} {I I' : Nat → Int32} {R R' : Nat → Nat → Int32} {g g' : Nat} {z z' : Nat → Int32} (h : GrM m I R g z) (h4 : I' (4 + 2 * g') = I (4 + 2 * g)) (h5 : I' (5 + 2 * g') = I (5 + 2 * g)) (hr : R' (2 * g') = R (2 * g)) (hs : R' (1 + 2 * g') = R (1 + 2 * g)) (hz : ∀ k, k < 25 → z' k = z k) : GrM m I' R' g' z' := by
  obtain ⟨a, b, c, d, e, f⟩ := h
  refine ⟨h4.trans a, ⟨b.1, fun k hk => (hz _ (by omega)).trans (b.2 k hk)⟩, ?_, fun k hk => ?_, fun k hk => ?_, fun k hk => ?_⟩
  · rw [h5, c, hz 24 (by decide)]
  · rw [hr, d k hk, hz k (by omega)]
  · rw [hs, e k hk, hz _ (by omega)]
  · rw [hz k (by omega)]; exact f k hk
theorem gw_congr {I I' : Nat → Int32} {R R' : Nat → Nat → Int32} {g g' : Nat} {z z' : Nat → Int32} (h : GrW I R g z) (h4 : I' (4 + 2 * g') = I (4 + 2 * g)) (h5 : I' (5 + 2 * g') = I (5 + 2 * g)) (hr : R' (2 * g') = R (2 * g)) (hs : R' (1 + 2 * g') = R (1 + 2 * g)) (hz : ∀ k, k < 25 → z' k = z k) : GrW I' R' g' z' := by
  obtain ⟨m, h⟩ := h
  exact ⟨m, gm_congr h h4 h5 hr hs hz⟩
/-- the ring of saved states; the slots; the buffer -/
def RgP (nx ct : Nat) (I : Nat → Int32) (R : Nat → Nat → Int32) (S : Nat → Int32) : Prop :=
  nx < 6 ∧ ct ≤ 6 ∧ I 1 = nI nx ∧ I 2 = nI ct ∧ ∀ i, i < ct → GrW I R ((nx + 6 - ct + i) % 6 + 1) (fun k => S (25 * i + k))
def SlP (ks : Nat) (I : Nat → Int32) (R : Nat → Nat → Int32) (S K : Nat → Int32) : Prop :=
  ks < 4 ∧ I 0 = nI ks ∧ ∀ j, j < 2 → K j = lbI ks j ∧ (lbI ks j = 1 → GrW I R (j + 7) (fun k => S (25 * j + k)))
def TxP (len : Nat) (I I2 : Nat → Int32) (c t : Nat → Int32) : Prop := TxT t len ∧ I 3 = nI len ∧ I2 2 = nI len ∧ ∀ i, i < 60 → c i = t i
def StP (m nx ct ks len : Nat) (I : Nat → Int32) (R : Nat → Nat → Int32) (I2 : Nat → Int32) (R2 : Nat → Nat → Int32) : Prop :=
  GrM m I R 0 (R2 0) ∧ RgP nx ct I R (R2 1) ∧ I2 1 = nI ct ∧ SlP ks I R (R2 2) (R2 3) ∧ TxP len I I2 (R 18) (R2 4)
section
variable {nx ct ks len : Nat} {I I' I2 I2' : Nat → Int32} {R R' R2 R2' : Nat → Nat → Int32} {S S' K : Nat → Int32}
theorem rg_fr (h : RgP nx ct I R S) (hI : ∀ k, k = 1 ∨ k = 2 ∨ (6 ≤ k ∧ k < 18) → I' k = I k) (hR : ∀ k, 2 ≤ k → k < 14 → R' k = R k) (hS : ∀ k, k < 25 * ct → S' k = S k) : RgP nx ct I' R' S' := by
  obtain ⟨a, b, c, d, e⟩ := h
  refine ⟨a, b, (hI 1 (by omega)).trans c, (hI 2 (by omega)).trans d, fun i hi => ?_⟩
  have hg : (nx + 6 - ct + i) % 6 < 6 := Nat.mod_lt _ (by decide)
  refine gw_congr (e i hi) (hI _ (by omega)) (hI _ (by omega)) (hR _ (by omega) (by omega)) (hR _ (by omega) (by omega)) (fun k hk => hS _ ?_)
  have h1 : 25 * i + 25 ≤ 25 * ct := by omega
  omega
theorem sl_fr {ks : Nat} (h : SlP ks I R S K) (hI : ∀ k, k = 0 ∨ 18 ≤ k → I' k = I k) (hR : ∀ k, 14 ≤ k → k < 18 → R' k = R k) : SlP ks I' R' S K := by
  obtain ⟨a, b, c⟩ := h
  refine ⟨a, (hI 0 (by omega)).trans b, fun j hj => ⟨(c j hj).1, fun hl => ?_⟩⟩
  exact gw_congr ((c j hj).2 hl) (hI _ (by omega)) (hI _ (by omega)) (hR _ (by omega) (by omega)) (hR _ (by omega) (by omega)) (fun _ _ => rfl)
theorem tx_le {t : Nat → Int32} {l2 : Nat} (h : TxT t len) (hl : l2 ≤ len) : TxT t l2 := ⟨Nat.le_trans hl h.1, fun i hi => h.2 i (by omega)⟩
/-- what a push keeps and writes -/
theorem pu_o {k : Nat} (h : k ≠ 1) (h2 : k ≠ 2) (h3 : k ≠ 6 + 2 * nx) (h4 : k ≠ 7 + 2 * nx) : pushI I nx ct k = I k := by
  simp only [pushI, tkI, upd]
  rw [if_neg h2, if_neg h, if_neg (by omega), if_neg (by omega)]
theorem pu_4 : pushI I nx ct (6 + 2 * nx) = I 4 := by
  simp only [pushI, tkI, upd]
  rw [if_neg (by omega), if_neg (by omega), if_neg (by omega), if_pos (by omega)]
theorem pu_5 : pushI I nx ct (7 + 2 * nx) = I 5 := by
  simp only [pushI, tkI, upd]
  rw [if_neg (by omega), if_neg (by omega), if_pos (by omega)]
theorem pu_1 : pushI I nx ct 1 = nI ((nx + 1) % 6) := rfl
theorem pu_2 : pushI I nx ct 2 = nI (min (ct + 1) 6) := rfl
theorem pr_o {k : Nat} (h : k ≠ 2 + 2 * nx) (h2 : k ≠ 3 + 2 * nx) : pushR R nx k = R k := by
  simp only [pushR, tkR, updR]
  rw [if_neg (by omega), if_neg (by omega)]
theorem pr_0 : pushR R nx (2 + 2 * nx) = R 0 := by
  simp only [pushR, tkR, updR]
  rw [if_neg (by omega), if_pos (by omega)]
theorem pr_1 : pushR R nx (3 + 2 * nx) = R 1 := by
  simp only [pushR, tkR, updR]
  rw [if_pos (by omega)]
/-- the ring behind a push -/
theorem rg_push {m : Nat} {z f : Nat → Int32} (h : RgP nx ct I R S) (hn : GrM m I R 0 z) (hf : recP S z ct f) : RgP ((nx + 1) % 6) (min (ct + 1) 6) (pushI I nx ct) (pushR R nx) f := by
  obtain ⟨a, b, c, d, e⟩ := h
  obtain ⟨sb, s1, s2, s3⟩ := hf
  refine ⟨Nat.mod_lt _ (by decide), by omega, pu_1, pu_2, fun i hi => ?_⟩
  by_cases hlast : i = sb
  · subst hlast
    have eg : ((nx + 1) % 6 + 6 - min (ct + 1) 6 + i) % 6 + 1 = nx + 1 := by omega
    rw [eg]
    refine ⟨m, gm_congr hn ?_ ?_ ?_ ?_ (fun k hk => s2 k hk)⟩
    · rw [show 4 + 2 * (nx + 1) = 6 + 2 * nx by omega]; exact pu_4
    · rw [show 5 + 2 * (nx + 1) = 7 + 2 * nx by omega]; exact pu_5
    · rw [show 2 * (nx + 1) = 2 + 2 * nx by omega]; exact pr_0
    · rw [show 1 + 2 * (nx + 1) = 3 + 2 * nx by omega]; exact pr_1
  · have hj : i + (ct - sb) < ct := by omega
    have ho := e (i + (ct - sb)) hj
    obtain ⟨g, hg⟩ : ∃ g, g = (nx + 6 - ct + (i + (ct - sb))) % 6 := ⟨_, rfl⟩
    have eg : ((nx + 1) % 6 + 6 - min (ct + 1) 6 + i) % 6 + 1 = g + 1 := by omega
    have hne : g ≠ nx := by omega
    have hg6 : g < 6 := by omega
    rw [← hg] at ho
    rw [eg]
    refine gw_congr ho (pu_o (by omega) (by omega) (by omega) (by omega)) (pu_o (by omega) (by omega) (by omega) (by omega)) (pr_o (by omega) (by omega)) (pr_o (by omega) (by omega)) (fun k hk => ?_)
    show f (25 * i + k) = S (25 * (i + (ct - sb)) + k)
    rw [s3 _ (by omega), show 25 * i + k + 25 * (ct - sb) = 25 * (i + (ct - sb)) + k by omega]
/-- behind a method that saves the state -/
theorem st_push {m m2 l2 : Nat} {f : Nat → Int32} (h : StP m nx ct ks len I R I2 R2) (hf : recP (R2 1) (R2 0) ct f)
    (hI : ∀ k, k = 0 ∨ k = 1 ∨ k = 2 ∨ 6 ≤ k → I' k = pushI I nx ct k) (hR : ∀ k, 2 ≤ k → k < 19 → R' k = pushR R nx k) (h1 : I2' 1 = nI (min (ct + 1) 6))
    (e1 : R2' 1 = f) (e2 : R2' 2 = R2 2) (e3 : R2' 3 = R2 3) (e4 : R2' 4 = R2 4) (hN : GrM m2 I' R' 0 (R2' 0)) (h3 : I' 3 = nI l2) (h32 : I2' 2 = nI l2) (hl : l2 ≤ len) :
    StP m2 ((nx + 1) % 6) (min (ct + 1) 6) ks l2 I' R' I2' R2' := by
  obtain ⟨a, b, c, d, e⟩ := h
  have hnx := b.1
  refine ⟨hN, ?_, h1, ?_, ?_⟩
  · rw [e1]
    exact rg_fr (rg_push b a hf) (fun k hk => hI k (by omega)) (fun k h2 h3 => hR k h2 (by omega)) (fun _ _ => rfl)
  · rw [e2, e3]
    refine sl_fr d (fun k hk => ?_) (fun k k1 k2 => ?_)
    · rw [hI k (by omega)]; exact pu_o (by omega) (by omega) (by omega) (by omega)
    · rw [hR k (by omega) (by omega)]; exact pr_o (by omega) (by omega)
  · rw [e4, hR 18 (by omega) (by omega), pr_o (by omega) (by omega)]
    exact ⟨tx_le e.1 hl, h3, h32, e.2.2.2⟩
/-- behind an undo -/
theorem st_pop {m : Nat} (h : StP m nx ct ks len I R I2 R2) (hc : 0 < ct) (h1 : I2' 1 = nI (ct - 1)) (h2 : I2' 2 = I2 2)
    (e0 : R2' 0 = fun j => R2 1 (25 * (ct - 1) + j)) (e1 : R2' 1 = R2 1) (e2 : R2' 2 = R2 2) (e3 : R2' 3 = R2 3) (e4 : R2' 4 = R2 4) :
    ∃ m2, StP m2 ((nx + 5) % 6) (ct - 1) ks len (popI I nx ct) (popR R nx) I2' R2' := by
  obtain ⟨a, b, c, d, e⟩ := h
  obtain ⟨b1, b2, b3, b4, b5⟩ := b
  obtain ⟨m2, hg⟩ := b5 (ct - 1) (by omega)
  obtain ⟨g, hgd⟩ : ∃ g, g = (nx + 5) % 6 := ⟨_, rfl⟩
  have eg : (nx + 6 - ct + (ct - 1)) % 6 + 1 = g + 1 := by omega
  have hg6 : g < 6 := by omega
  rw [eg] at hg
  have q4 : popI I nx ct 4 = I (6 + 2 * g) := by
    unfold popI
    rw [tk0_4, up_ne (by omega), up_ne (by omega), ← hgd, show 4 + 2 * (g + 1) = 6 + 2 * g by omega]
  have q5 : popI I nx ct 5 = I (7 + 2 * g) := by
    unfold popI
    rw [tk0_5, up_ne (by omega), up_ne (by omega), ← hgd, show 5 + 2 * (g + 1) = 7 + 2 * g by omega]
  have qo : ∀ k, k ≠ 1 → k ≠ 2 → k ≠ 4 → k ≠ 5 → popI I nx ct k = I k := fun k k1 k2 k4 k5 => by
    unfold popI
    rw [tk0_o k4 k5, up_ne k2, up_ne k1]
  have r0 : popR R nx 0 = R (2 + 2 * g) := by
    unfold popR
    rw [tr0_0, ← hgd, show 2 * (g + 1) = 2 + 2 * g by omega]
  have r1 : popR R nx 1 = R (3 + 2 * g) := by
    unfold popR
    rw [tr0_1, ← hgd, show 1 + 2 * (g + 1) = 3 + 2 * g by omega]
  have ro : ∀ k, 2 ≤ k → popR R nx k = R k := fun k k1 => tr0_o k1
  refine ⟨m2, ?_, ⟨by omega, by omega, ?_, popI_2, fun i hi => ?_⟩, h1, ?_, ?_⟩
  · rw [e0]
    refine gm_congr hg ?_ ?_ ?_ ?_ (fun _ _ => rfl)
    · rw [show 4 + 2 * (g + 1) = 6 + 2 * g by omega]; exact q4
    · rw [show 5 + 2 * (g + 1) = 7 + 2 * g by omega]; exact q5
    · rw [show 2 * (g + 1) = 2 + 2 * g by omega]; exact r0
    · rw [show 1 + 2 * (g + 1) = 3 + 2 * g by omega]; exact r1
  · unfold popI
    rw [tk0_o (by decide) (by decide), up_ne (by decide), up_eq]
  · have hi2 := b5 i (by omega)
    have eg2 : ((nx + 5) % 6 + 6 - (ct - 1) + i) % 6 + 1 = (nx + 6 - ct + i) % 6 + 1 := by omega
    rw [eg2, e1]
    exact gw_congr hi2 (qo _ (by omega) (by omega) (by omega) (by omega)) (qo _ (by omega) (by omega) (by omega) (by omega)) (ro _ (by omega)) (ro _ (by omega)) (fun _ _ => rfl)
  · rw [e2, e3]
    exact sl_fr d (fun k hk => qo k (by omega) (by omega) (by omega) (by omega)) (fun k k1 k2 => ro k (by omega))
  · rw [e4, ro 18 (by omega)]
    exact ⟨e.1, (qo 3 (by omega) (by omega) (by omega) (by omega)).trans e.2.1, h2.trans e.2.2.1, e.2.2.2⟩
end

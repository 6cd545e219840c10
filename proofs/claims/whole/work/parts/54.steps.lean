/-! each call keeps the two states alike -/
section
variable {m nx ct ks len k : Nat} {I I2 : Nat → Int32} {R R2 : Nat → Nat → Int32} {f : Nat → Int32} {x : Int32}
/-- the rows of the class, told by the reference's -/
def NmP (R R2 : Nat → Nat → Int32) : Prop := R 0 = R2 0 ∧ R 1 = qz (R2 0) ∧ R 18 = R2 4
theorem p_01 (hn : nx < 6) : pushR R nx 0 = R 0 ∧ pushR R nx 1 = R 1 := ⟨pushR_k hn (Or.inl rfl), pushR_k hn (Or.inr (Or.inl rfl))⟩
theorem st_set (h : StP m nx ct ks len I R I2 R2) (hN : NmP R R2) (hf : recP (R2 1) (R2 0) ct f) (hk : k < 8) (hx : outI x (-99) 99 = 0) :
    StP m ((nx + 1) % 6) (min (ct + 1) 6) ks len (pushI I nx ct) (updR (pushR R nx) 0 (upd (R 0) k x)) (upd (upd I2 0 0) 1 (nI (min (ct + 1) 6))) (updR (updR R2 1 f) 0 (upd (R2 0) k x)) := by
  obtain ⟨a1, a2, a3, a4, a5, a6⟩ := h.1
  obtain ⟨p0, p1⟩ := p_01 (R := R) h.2.1.1
  refine st_push h hf (fun _ _ => rfl) (fun j h2 h3 => ur_ne (by omega)) rfl rfl rfl rfl rfl ⟨pushI_4.trans a1, rl_up a2 (Or.inl hk), ?_, fun j hj => ?_, fun j hj => ?_, bd_set a6 hx⟩ (pushI_3.trans h.2.2.2.2.2.1) h.2.2.2.2.2.2.1 (Nat.le_refl _)
  · show pushI I nx ct 5 = upd (R2 0) k x 24
    rw [up_ne (by omega)]; exact pushI_5.trans a3
  · show upd (R 0) k x j = upd (R2 0) k x j
    rw [hN.1]
  · show pushR R nx 1 j = upd (R2 0) k x (16 + j)
    rw [p1, hN.2.1, up_ne (by omega)]; rfl
theorem st_point (h : StP m nx ct ks len I R I2 R2) (hN : NmP R R2) (hf : recP (R2 1) (R2 0) ct f) (hk : k < 8) :
    StP m ((nx + 1) % 6) (min (ct + 1) 6) ks len (pushI I nx ct) (updR (pushR R nx) 1 (upd (R 1) k x)) (upd (upd I2 0 0) 1 (nI (min (ct + 1) 6))) (updR (updR R2 1 f) 0 (upd (R2 0) (16 + k) x)) := by
  obtain ⟨a1, a2, a3, a4, a5, a6⟩ := h.1
  obtain ⟨p0, p1⟩ := p_01 (R := R) h.2.1.1
  refine st_push h hf (fun _ _ => rfl) (fun j h2 h3 => ur_ne (by omega)) rfl rfl rfl rfl rfl ⟨pushI_4.trans a1, rl_up a2 (Or.inr (by omega)), ?_, fun j hj => ?_, fun j hj => ?_, bd_up a6 (by omega)⟩ (pushI_3.trans h.2.2.2.2.2.1) h.2.2.2.2.2.2.1 (Nat.le_refl _)
  · show pushI I nx ct 5 = upd (R2 0) (16 + k) x 24
    rw [up_ne (by omega)]; exact pushI_5.trans a3
  · show pushR R nx 0 j = upd (R2 0) (16 + k) x j
    rw [p0, hN.1, up_ne (by omega)]
  · show upd (R 1) k x j = upd (R2 0) (16 + k) x (16 + j)
    rw [hN.2.1, ← qz_pt]; rfl
theorem st_lose (h : StP m nx ct ks len I R I2 R2) (hN : NmP R R2) (hf : recP (R2 1) (R2 0) ct f) (hk : k < 8) :
    StP (m ^^^ 2 ^ k) ((nx + 1) % 6) (min (ct + 1) 6) ks len (upd (pushI I nx ct) 4 (nI (m ^^^ 2 ^ k))) (pushR R nx) (upd (upd I2 0 0) 1 (nI (min (ct + 1) 6))) (updR (updR R2 1 f) 0 (upd (R2 0) (8 + k) (1 - R2 0 (8 + k)))) := by
  obtain ⟨a1, a2, a3, a4, a5, a6⟩ := h.1
  obtain ⟨p0, p1⟩ := p_01 (R := R) h.2.1.1
  refine st_push h hf (fun j hj => up_ne (by omega)) (fun j h2 h3 => rfl) rfl rfl rfl rfl rfl ⟨rfl, rl_lo a2 hk, ?_, fun j hj => ?_, fun j hj => ?_, bd_up a6 (by omega)⟩ ?_ h.2.2.2.2.2.2.1 (Nat.le_refl _)
  · show pushI I nx ct 5 = upd (R2 0) (8 + k) (1 - R2 0 (8 + k)) 24
    rw [up_ne (by omega)]; exact pushI_5.trans a3
  · show pushR R nx 0 j = upd (R2 0) (8 + k) (1 - R2 0 (8 + k)) j
    rw [p0, hN.1, up_ne (by omega)]
  · show pushR R nx 1 j = upd (R2 0) (8 + k) (1 - R2 0 (8 + k)) (16 + j)
    rw [p1, hN.2.1, up_ne (by omega)]; rfl
  · rw [up_ne (by decide)]
    exact pushI_3.trans h.2.2.2.2.2.1
theorem st_turn (h : StP m nx ct ks len I R I2 R2) (hN : NmP R R2) (hf : recP (R2 1) (R2 0) ct f) {b : Nat} :
    StP m ((nx + 1) % 6) (min (ct + 1) 6) ks len (pushI I nx ct) (updR (pushR R nx) 0 (tuF (R 0) b)) (upd (upd I2 0 0) 1 (nI (min (ct + 1) 6))) (updR (updR R2 1 f) 0 (tmF (R2 0) b)) := by
  obtain ⟨a1, a2, a3, a4, a5, a6⟩ := h.1
  obtain ⟨p0, p1⟩ := p_01 (R := R) h.2.1.1
  refine st_push h hf (fun _ _ => rfl) (fun j h2 h3 => ur_ne (by omega)) rfl rfl rfl rfl rfl ⟨pushI_4.trans a1, rl_tmW a2 b, ?_, fun j hj => ?_, fun j hj => ?_, bd_tm a6 b⟩ (pushI_3.trans h.2.2.2.2.2.1) h.2.2.2.2.2.2.1 (Nat.le_refl _)
  · show pushI I nx ct 5 = tmF (R2 0) b 24
    rw [z24_tm]; exact pushI_5.trans a3
  · show tuF (R 0) b j = tmF (R2 0) b j
    rw [hN.1, rl_tm hj]
  · show pushR R nx 1 j = tmF (R2 0) b (16 + j)
    rw [p1, hN.2.1, ← qz_tm (b := b)]; rfl
theorem do_dm {z : Nat → Int32} {x : Int32} {j : Nat} (hj : j < 8) : doF z x j = dmF z x j := by
  unfold doF dmF
  rw [if_pos hj]
  by_cases c : z j = 0
  · rw [if_pos c, c]; split <;> rfl
  · rw [if_neg c]
theorem st_drop (h : StP m nx ct ks len I R I2 R2) (hN : NmP R R2) (hf : recP (R2 1) (R2 0) ct f) :
    StP m ((nx + 1) % 6) (min (ct + 1) 6) ks len (pushI I nx ct) (updR (pushR R nx) 0 (doF (R 0) x)) (upd (upd I2 0 0) 1 (nI (min (ct + 1) 6))) (updR (updR R2 1 f) 0 (dmF (R2 0) x)) := by
  obtain ⟨a1, a2, a3, a4, a5, a6⟩ := h.1
  obtain ⟨p0, p1⟩ := p_01 (R := R) h.2.1.1
  refine st_push h hf (fun _ _ => rfl) (fun j h2 h3 => ur_ne (by omega)) rfl rfl rfl rfl rfl ⟨pushI_4.trans a1, rl_dmW a2 x, ?_, fun j hj => ?_, fun j hj => ?_, bd_dm a6 x⟩ (pushI_3.trans h.2.2.2.2.2.1) h.2.2.2.2.2.2.1 (Nat.le_refl _)
  · show pushI I nx ct 5 = dmF (R2 0) x 24
    rw [z24_dm]; exact pushI_5.trans a3
  · show doF (R 0) x j = dmF (R2 0) x j
    rw [hN.1, do_dm hj]
  · show pushR R nx 1 j = dmF (R2 0) x (16 + j)
    rw [p1, hN.2.1, ← qz_dm (x := x)]; rfl
theorem st_copy (h : StP m nx ct ks len I R I2 R2) (hN : NmP R R2) (hf : recP (R2 1) (R2 0) ct f) :
    StP m ((nx + 1) % 6) (min (ct + 1) 6) ks len (pushI I nx ct) (updR (pushR R nx) 1 (fun n => trS (dr (R 0) m) n 8)) (upd (upd I2 0 0) 1 (nI (min (ct + 1) 6))) (updR (updR R2 1 f) 0 (cpM (R2 0))) := by
  obtain ⟨a1, a2, a3, a4, a5, a6⟩ := h.1
  obtain ⟨p0, p1⟩ := p_01 (R := R) h.2.1.1
  refine st_push h hf (fun _ _ => rfl) (fun j h2 h3 => ur_ne (by omega)) rfl rfl rfl rfl rfl ⟨pushI_4.trans a1, rl_cpW a2, ?_, fun j hj => ?_, fun j hj => ?_, bd_cp a6⟩ (pushI_3.trans h.2.2.2.2.2.1) h.2.2.2.2.2.2.1 (Nat.le_refl _)
  · show pushI I nx ct 5 = cpM (R2 0) 24
    rw [z24_cp]; exact pushI_5.trans a3
  · show pushR R nx 0 j = cpM (R2 0) j
    unfold cpM
    rw [p0, hN.1, if_pos (by omega)]
  · show trS (dr (R 0) m) j 8 = cpM (R2 0) (16 + j)
    rw [hN.1]; exact (qz_cp a2 hj).symm
theorem st_fit (h : StP m nx ct ks len I R I2 R2) (hN : NmP R R2) (hf : recP (R2 1) (R2 0) ct f) :
    StP 0 ((nx + 1) % 6) (min (ct + 1) 6) ks len (upd (upd (pushI I nx ct) 4 0) 5 (I 5 + cgS (R 0) (fiF (R 1)) 8)) (updR (pushR R nx) 0 (fiF (R 1))) (upd (upd I2 0 0) 1 (nI (min (ct + 1) 6))) (updR (updR R2 1 f) 0 (upd (fmM (R2 0)) 24 (R2 0 24 + cgS (R2 0) (fiF (qz (R2 0))) 8))) := by
  obtain ⟨a1, a2, a3, a4, a5, a6⟩ := h.1
  obtain ⟨p0, p1⟩ := p_01 (R := R) h.2.1.1
  have eV : cgS (R 0) (fiF (R 1)) 8 = cgS (R2 0) (fiF (qz (R2 0))) 8 := by rw [hN.1, hN.2.1]
  rw [eV]
  generalize cgS (R2 0) (fiF (qz (R2 0))) 8 = V
  refine st_push h hf (fun j hj => (up_ne (by omega)).trans (up_ne (by omega))) (fun j h2 h3 => ur_ne (by omega)) rfl rfl rfl rfl rfl ⟨?_, rl_up rl_fmW (Or.inr (by omega)), ?_, fun j hj => ?_, fun j hj => ?_, bd_up bd_fm (by omega)⟩ ?_ h.2.2.2.2.2.2.1 (Nat.le_refl _)
  · show (0 : Int32) = nI 0
    exact nI_0.symm
  · show I 5 + V = R2 0 24 + V
    have a3' : I 5 = R2 0 24 := a3
    rw [a3']
  · show fiF (R 1) j = upd (fmM (R2 0)) 24 (R2 0 24 + V) j
    rw [up_ne (by omega), hN.2.1]
    unfold fmM
    rw [if_pos hj]
  · show pushR R nx 1 j = upd (fmM (R2 0)) 24 (R2 0 24 + V) (16 + j)
    rw [p1, hN.2.1, up_ne (by omega), ← qz_fm]; rfl
  · rw [up_ne (by decide), up_ne (by decide)]
    exact pushI_3.trans h.2.2.2.2.2.1
theorem st_load (h : StP m nx ct ks len I R I2 R2) (hN : NmP R R2) (hf : recP (R2 1) (R2 0) ct f) (hfer : ferS (R2 4) len 61 0 = -1) {o1 o2 o3 : Int32} :
    StP (tt (R 18) len).2.1 ((nx + 1) % 6) (min (ct + 1) 6) ks 0 (upd (upd (pushI I nx ct) 4 (nI (tt (R 18) len).2.1)) 3 0) (updR (pushR R nx) 0 ((tt (R 18) len).1)) (upd (upd (upd (upd (upd (upd I2 0 0) 1 (nI (min (ct + 1) 6))) 3 o1) 5 o2) 4 o3) 2 0) (updR (updR R2 1 f) 0 (ldF (R2 4) len (R2 0))) := by
  obtain ⟨a1, a2, a3, a4, a5, a6⟩ := h.1
  obtain ⟨p0, p1⟩ := p_01 (R := R) h.2.1.1
  have hT := h.2.2.2.2.1
  obtain ⟨⟨t1, t2, t3⟩, t4⟩ := tx_ld hT hfer (R2 0)
  have e18 : R 18 = R2 4 := hN.2.2
  rw [e18]
  refine st_push h hf (fun j hj => (up_ne (by omega)).trans (up_ne (by omega))) (fun j h2 h3 => ur_ne (by omega)) rfl rfl rfl rfl rfl ⟨rfl, t2, ?_, fun j hj => ?_, fun j hj => ?_, t3⟩ rfl rfl (Nat.zero_le _)
  · show pushI I nx ct 5 = ldF (R2 4) len (R2 0) 24
    rw [t4 24 (by decide)]; exact pushI_5.trans a3
  · show (tt (R2 4) len).1 j = ldF (R2 4) len (R2 0) j
    exact t1 j hj
  · show pushR R nx 1 j = ldF (R2 4) len (R2 0) (16 + j)
    rw [p1, hN.2.1, t4 _ (by omega)]; rfl
theorem st_goBack (h : StP m nx ct ks len I R I2 R2) (hN : NmP R R2) (hf : recP (R2 1) (R2 0) ct f) (hk : k < 2) (hs : lbI ks k = 1) :
    ∃ m2, StP m2 ((nx + 1) % 6) (min (ct + 1) 6) ks len (tkI (pushI I nx ct) 0 (k + 7)) (tkR (pushR R nx) 0 (k + 7)) (upd (upd I2 0 0) 1 (nI (min (ct + 1) 6))) (updR (updR R2 1 f) 0 (fun j => R2 2 (25 * k + j))) := by
  obtain ⟨a1, a2, a3, a4, a5, a6⟩ := h.1
  have hnx := h.2.1.1
  obtain ⟨m2, hg⟩ := (h.2.2.2.1.2.2 k hk).2 hs
  refine ⟨m2, st_push h hf (fun j hj => ?_) (fun j h2 h3 => ?_) rfl rfl rfl rfl rfl (gm_congr hg ?_ ?_ ?_ ?_ (fun _ _ => rfl)) ?_ h.2.2.2.2.2.2.1 (Nat.le_refl _)⟩
  · exact tk0_o (by omega) (by omega)
  · exact tr0_o h2
  · exact tk0_4.trans (pu_o (by omega) (by omega) (by omega) (by omega))
  · exact tk0_5.trans (pu_o (by omega) (by omega) (by omega) (by omega))
  · exact tr0_0.trans (pr_o (by omega) (by omega))
  · exact tr0_1.trans (pr_o (by omega) (by omega))
  · exact (tk0_o (by decide) (by decide)).trans (pushI_3.trans h.2.2.2.2.2.1)
theorem st_goBackA (h : StP m nx ct ks len I R I2 R2) (hk : k < 2) (hs : lbI ks k = 1) : cnS (R (2 * (k + 7))) 8 = cnS (fun j => R2 2 (25 * k + j)) 8 := by
  obtain ⟨m2, hg⟩ := (h.2.2.2.1.2.2 k hk).2 hs
  have e : ∀ i, i ≤ 8 → cnS (R (2 * (k + 7))) i = cnS (fun j => R2 2 (25 * k + j)) i := fun i => by
    induction i with
    | zero => intro _; rfl
    | succ i ih =>
      intro hi
      show cnS (R (2 * (k + 7))) i + (if R (2 * (k + 7)) i = 0 then 0 else 1) = cnS (fun j => R2 2 (25 * k + j)) i + (if R2 2 (25 * k + i) = 0 then 0 else 1)
      rw [ih (by omega), hg.2.2.2.1 i (by omega)]
  exact e 8 (Nat.le_refl 8)
theorem st_undo (h : StP m nx ct ks len I R I2 R2) (hc : 0 < ct) :
    ∃ m2, StP m2 ((nx + 5) % 6) (ct - 1) ks len (popI I nx ct) (popR R nx) (upd (upd I2 0 0) 1 (nI (ct - 1))) (updR R2 0 (fun j => R2 1 (25 * (ct - 1) + j))) :=
  st_pop h hc rfl rfl rfl rfl rfl rfl rfl
theorem kp_lb0 : ∀ ks, ks < 4 → ∀ k, k < 2 → ks ||| 2 ^ k < 4 ∧ ∀ j, j < 2 → lbI (ks ||| 2 ^ k) j = if j = k then 1 else lbI ks j := by decide +kernel
theorem st_keep (h : StP m nx ct ks len I R I2 R2) (hk : k < 2) {g : Nat → Int32} (g1 : ∀ j, j < 25 → g (25 * k + j) = R2 0 j) (g2 : ∀ j, j < 25 * k ∨ 25 * k + 25 ≤ j → g j = R2 2 j) :
    StP m nx ct (ks ||| 2 ^ k) len (upd (tkI I (k + 7) 0) 0 (nI (ks ||| 2 ^ k))) (tkR R (k + 7) 0) (upd I2 0 0) (updR (updR R2 2 g) 3 (upd (R2 3) k 1)) := by
  obtain ⟨a, b, c, d, e⟩ := h
  obtain ⟨k1, k2⟩ := kp_lb0 ks d.1 k hk
  have qo : ∀ j, j ≠ 0 → j ≠ 18 + 2 * k → j ≠ 19 + 2 * k → upd (tkI I (k + 7) 0) 0 (nI (ks ||| 2 ^ k)) j = I j := fun j j0 j1 j2 => by
    simp only [tkI]
    rw [up_ne j0, up_ne (by omega), up_ne (by omega)]
  have ro : ∀ j, j ≠ 14 + 2 * k → j ≠ 15 + 2 * k → tkR R (k + 7) 0 j = R j := fun j j1 j2 => by
    simp only [tkR]
    rw [ur_ne (by omega), ur_ne (by omega)]
  refine ⟨gm_congr a (qo 4 (by omega) (by omega) (by omega)) (qo 5 (by omega) (by omega) (by omega)) (ro 0 (by omega) (by omega)) (ro 1 (by omega) (by omega)) (fun _ _ => rfl), rg_fr b (fun j hj => qo j (by omega) (by omega) (by omega)) (fun j j1 j2 => ro j (by omega) (by omega)) (fun _ _ => rfl), c, ⟨k1, rfl, fun j hj => ⟨?_, fun hl => ?_⟩⟩, ?_⟩
  · show upd (R2 3) k 1 j = lbI (ks ||| 2 ^ k) j
    rw [k2 j hj]
    unfold upd
    split
    · rfl
    · exact (d.2.2 j hj).1
  · show GrW _ _ (j + 7) (fun i => g (25 * j + i))
    by_cases c2 : j = k
    · subst c2
      refine ⟨m, gm_congr a ?_ ?_ ?_ ?_ (fun i hi => g1 i hi)⟩
      · simp only [tkI]; rw [up_ne (by omega), up_ne (by omega), up_eq]
      · simp only [tkI]; rw [up_ne (by omega), up_eq]
      · simp only [tkR]; rw [ur_ne (by omega), ur_eq]
      · simp only [tkR]; rw [ur_eq]
    · rw [k2 j hj, if_neg c2] at hl
      refine gw_congr ((d.2.2 j hj).2 hl) (qo _ (by omega) (by omega) (by omega)) (qo _ (by omega) (by omega) (by omega)) (ro _ (by omega) (by omega)) (ro _ (by omega) (by omega)) (fun i hi => ?_)
      exact g2 _ (by omega)
  · show TxP len _ _ (tkR R (k + 7) 0 18) (R2 4)
    rw [ro 18 (by omega) (by omega)]
    exact ⟨e.1, (qo 3 (by omega) (by omega) (by omega)).trans e.2.1, e.2.2.1, e.2.2.2⟩
theorem st_append (h : StP m nx ct ks len I R I2 R2) (hN : NmP R R2) (hl : len < 60) {q : Nat} (h1 : 33 ≤ q) (h2 : q ≤ 126) :
    StP m nx ct ks (len + 1) (upd I 3 (nI (len + 1))) (updR R 18 (upd (R 18) len (nI q))) (upd (upd I2 0 0) 2 (nI (len + 1))) (updR R2 4 (upd (R2 4) len (nI q))) := by
  obtain ⟨a, b, c, d, e⟩ := h
  refine ⟨gm_congr a rfl rfl rfl rfl (fun _ _ => rfl), rg_fr b (fun j hj => up_ne (by omega)) (fun j j1 j2 => ur_ne (by omega)) (fun _ _ => rfl), c, sl_fr d (fun j hj => up_ne (by omega)) (fun j j1 j2 => ur_ne (by omega)), ⟨⟨by omega, fun i hi => ?_⟩, rfl, rfl, fun i hi => ?_⟩⟩
  · show 33 ≤ (upd (R2 4) len (nI q) i).toInt ∧ (upd (R2 4) len (nI q) i).toInt ≤ 126
    unfold upd
    split
    · rw [nI_toInt (by omega)]; omega
    · exact e.1.2 i (by omega)
  · show upd (R 18) len (nI q) i = upd (R2 4) len (nI q) i
    rw [hN.2.2]
theorem st_clear (h : StP m nx ct ks len I R I2 R2) : StP m nx ct ks 0 (upd I 3 0) R (upd (upd I2 0 0) 2 0) R2 := by
  obtain ⟨a, b, c, d, e⟩ := h
  exact ⟨gm_congr a rfl rfl rfl rfl (fun _ _ => rfl), rg_fr b (fun j hj => up_ne (by omega)) (fun j j1 j2 => rfl) (fun _ _ => rfl), c, sl_fr d (fun j hj => up_ne (by omega)) (fun j j1 j2 => rfl), ⟨tx_le e.1 (Nat.zero_le _), rfl, rfl, e.2.2.2⟩⟩
/-- what leaves the states as they are: the reference's fields 0 and 3 to 5, its row 5, the class's row 19 -/
theorem st_same {I2' : Nat → Int32} {R' R2' : Nat → Nat → Int32} (h : StP m nx ct ks len I R I2 R2) (h1 : I2' 1 = I2 1) (h2 : I2' 2 = I2 2) (hR : ∀ j, j < 19 → R' j = R j) (hR2 : ∀ j, j < 5 → R2' j = R2 j) : StP m nx ct ks len I R' I2' R2' := by
  obtain ⟨a, b, c, d, e⟩ := h
  refine ⟨?_, ?_, h1.trans c, ?_, ?_⟩
  · rw [hR2 0 (by decide)]; exact gm_congr a rfl rfl (hR 0 (by decide)) (hR 1 (by decide)) (fun _ _ => rfl)
  · rw [hR2 1 (by decide)]; exact rg_fr b (fun _ _ => rfl) (fun j j1 j2 => hR j (by omega)) (fun _ _ => rfl)
  · rw [hR2 2 (by decide), hR2 3 (by decide)]; exact sl_fr d (fun _ _ => rfl) (fun j j1 j2 => hR j (by omega))
  · rw [hR2 4 (by decide), hR 18 (by decide)]; exact ⟨e.1, e.2.1, h2.trans e.2.2.1, e.2.2.2⟩
end

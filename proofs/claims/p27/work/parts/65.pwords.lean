/-! what the law's methods compare -/
theorem up_ne {g : Nat → Int32} {j k : Nat} {v : Int32} (h : j ≠ k) : upd g k v j = g j := by unfold upd; rw [if_neg h]
theorem up_eq {g : Nat → Int32} {k : Nat} {v : Int32} : upd g k v k = v := by unfold upd; rw [if_pos rfl]
theorem ur_ne {S : Nat → Nat → Int32} {j k : Nat} {v : Nat → Int32} (h : j ≠ k) : updR S k v j = S j := by unfold updR; rw [if_neg h]
theorem ur_eq {S : Nat → Nat → Int32} {k : Nat} {v : Nat → Int32} : updR S k v k = v := by unfold updR; rw [if_pos rfl]
section
variable {a q d t f g p : Nat → Int32} {lm i k b K : Nat} {x s : Int32}
theorem wq0 : wnF a q lm k 0 = a k := rfl
theorem wq1 : wnF a q lm k 1 = lbI lm k := rfl
theorem wq2 : wnF a q lm k 2 = psS q k 8 >>> (3 : Int32) := rfl
theorem wq3 : wnF a q lm k 3 = chS k 7 := rfl
theorem pq0 : pnF q d k 0 = q k := rfl
theorem pq1 : pnF q d k 1 = diF q d k := rfl
theorem pq2 : pnF q d k 2 = juF d k := rfl
theorem ch_t (c : wv k i = wv k (i + 1)) : chS k i + 0 = chS k (i + 1) := by
  show _ = chS k i + (if wv k i = wv k (i + 1) then 0 else 1)
  rw [if_pos c]
theorem ch_f (c : ¬ wv k i = wv k (i + 1)) : chS k i + 1 = chS k (i + 1) := by
  show _ = chS k i + (if wv k i = wv k (i + 1) then 0 else 1)
  rw [if_neg c]
theorem sq_e {x d : Int32} (h : x = d) : x * x = d * d := by rw [h]
theorem sq_z {d : Int32} (h : 0 = d) : 0 = d * d := by subst h; decide
theorem ju_t (ht : t = fun n => trS d n 8) (hi : i < 8) (c : ¬ i = 7) : t (i + 1) - t i = juF d i := by
  rw [ht]
  show _ = trS d ((i + 1) % 8) 8 - trS d i 8
  rw [Nat.mod_eq_of_lt (by omega)]
theorem ju_f (ht : t = fun n => trS d n 8) (c : i = 7) : t 0 - t i = juF d i := by
  rw [ht, c]; rfl
theorem mg_t (ht : t = fun n => trS d n 8) (c : t i ≤ mgS d i) : mgS d i = mgS d (i + 1) := by
  rw [ht] at c
  show _ = if mgS d i < trS d i 8 then trS d i 8 else mgS d i
  rw [if_neg (fun h => absurd c (Int32.not_le.mpr h))]
theorem mg_f (ht : t = fun n => trS d n 8) (c : ¬ t i ≤ mgS d i) : t i = mgS d (i + 1) := by
  rw [ht] at c ⊢
  show _ = if mgS d i < trS d i 8 then trS d i 8 else mgS d i
  rw [if_pos (Int32.not_le.mp c)]
theorem mn_t (ht : t = fun n => trS d n 8) (c : mnS d i ≤ t i) : mnS d i = mnS d (i + 1) := by
  rw [ht] at c
  show _ = if trS d i 8 < mnS d i then trS d i 8 else mnS d i
  rw [if_neg (fun h => absurd c (Int32.not_le.mpr h))]
theorem mn_f (ht : t = fun n => trS d n 8) (c : ¬ mnS d i ≤ t i) : t i = mnS d (i + 1) := by
  rw [ht] at c ⊢
  show _ = if trS d i 8 < mnS d i then trS d i 8 else mnS d i
  rw [if_pos (Int32.not_le.mp c)]
theorem ga_t (c : abI (f i) ≤ gaS f i) : gaS f i = gaS f (i + 1) := by
  show _ = if gaS f i < abI (f i) then abI (f i) else gaS f i
  rw [if_neg (fun h => absurd c (Int32.not_le.mpr h))]
theorem ga_f (c : ¬ abI (f i) ≤ gaS f i) : abI (f i) = gaS f (i + 1) := by
  show _ = if gaS f i < abI (f i) then abI (f i) else gaS f i
  rw [if_pos (Int32.not_le.mp c)]
theorem ov_t (c : abI (mgS d 8) ≤ abI (mnS d 8)) : abI (mnS d 8) = ovL d := (if_pos c).symm
theorem ov_f (c : ¬ abI (mgS d 8) ≤ abI (mnS d 8)) : abI (mgS d 8) = ovL d := (if_neg c).symm
theorem ov_a (h : BdA d) (e : x = d 0) : ovF d = ovL d - abI x := by rw [ov_law h, e]
theorem ov_b (h : BdA d) (e : 0 = d 0) : ovF d = ovL d - 0 := by rw [ov_law h, ← e]; rfl
theorem fd_t (c : q i = 0) : fdS q i = fdS q (i + 1) := (if_pos c).symm
theorem fd_f (c : ¬ q i = 0) : nI i = fdS q (i + 1) := (if_neg c).symm
theorem le_t (c : ¬ lbI K i = 0) : loE d K i + 0 = loE d K (i + 1) := by
  show _ = loE d K i + (if lbI K i = 0 then 8 * d i * d i else 0)
  rw [if_neg c]
theorem le_f (c : lbI K i = 0) : loE d K i + 8 * d i * d i = loE d K (i + 1) := by
  show _ = loE d K i + (if lbI K i = 0 then 8 * d i * d i else 0)
  rw [if_pos c]
theorem lw_a (c : ¬ lbI K i = 1) : loW d K i + 0 = loW d K (i + 1) := by
  show _ = loW d K i + (if lbI K i = 1 then (if d i = 0 then 0 else 1) else 0)
  rw [if_neg c]
theorem lw_b (c : lbI K i = 1) (c2 : d i = 0) : loW d K i + 0 = loW d K (i + 1) := by
  show _ = loW d K i + (if lbI K i = 1 then (if d i = 0 then 0 else 1) else 0)
  rw [if_pos c, if_pos c2]
theorem lw_c (c : lbI K i = 1) (c2 : ¬ d i = 0) : loW d K i + 1 = loW d K (i + 1) := by
  show _ = loW d K i + (if lbI K i = 1 then (if d i = 0 then 0 else 1) else 0)
  rw [if_pos c, if_neg c2]
theorem lf_a (c : x < loE d K 8) : lfS d x K = lfS d x (K + 1) := (if_pos c).symm
theorem lf_b (c : ¬ x < loE d K 8) (c2 : lfS d x K ≤ loW d K 8) : lfS d x K = lfS d x (K + 1) := ((if_neg c).trans (if_pos c2)).symm
theorem lf_c (c : ¬ x < loE d K 8) (c2 : ¬ lfS d x K ≤ loW d K 8) : loW d K 8 = lfS d x (K + 1) := ((if_neg c).trans (if_neg c2)).symm
theorem lb_t1 (c : lsT g b ≤ g b) : lbT g b = lbT g (b + 1) := (if_neg (fun h => absurd c (Int32.not_le.mpr h))).symm
theorem lb_f1 (c : ¬ lsT g b ≤ g b) : b = lbT g (b + 1) := (if_pos (Int32.not_le.mp c)).symm
theorem ls_t1 (c : lsT g b ≤ g b) : lsT g b = lsT g (b + 1) := (if_neg (fun h => absurd c (Int32.not_le.mpr h))).symm
theorem ls_f1 (c : ¬ lsT g b ≤ g b) : g b = lsT g (b + 1) := (if_pos (Int32.not_le.mp c)).symm
/-! act's rows -/
theorem so_s {j n c : Nat} (hj : j < n) (h : n ≤ c + 100) (hc : c ≤ 99) : outI (nI j - nI c) (-99) 99 = 0 := out_in (by rw [i32_m99, sb_I (by omega) (by omega)]; omega) (by rw [i32_99, sb_I (by omega) (by omega)]; omega)
theorem i32_9999 : (9999 : Int32).toInt = 9999 := rfl
theorem i32_m9999 : (-9999 : Int32).toInt = -9999 := rfl
theorem so_p {j n c : Nat} (hj : j < n) (h : n ≤ c + 10000) (hc : c ≤ 9999) : outI (nI j - nI c) (-9999) 9999 = 0 := out_in (by rw [i32_m9999, sb_I (by omega) (by omega)]; omega) (by rw [i32_9999, sb_I (by omega) (by omega)]; omega)
theorem so_d {j : Nat} (h1 : 1 ≤ j) (h2 : j ≤ 99) : outI (nI j) 1 99 = 0 := out_in (by rw [i32_1, nI_toInt (by omega)]; omega) (by rw [i32_99, nI_toInt (by omega)]; omega)
theorem lo_upd (hm : lm < 256) (hk : k < 8) (hb : f = lbI lm) : ∀ j, j < 8 → upd f k (1 - f k) j = lbI (lm ^^^ 2 ^ k) j := fun j hj => by
  rw [(xr_01 lm hm k hk).2 j hj, hb]
  unfold upd
  rfl
theorem tl_a (hs : s = tuS a b i) (h2 : f i = a i) (c : f i = 0) : s + 0 = tuS a b (i + 1) := by
  show _ = if 0 ≤ wv i b then tuS a b i else if a i = 0 then tuS a b i else tuS a b i + 1
  by_cases z : 0 ≤ wv i b
  · rw [if_pos z, hs]; exact Int32.add_zero _
  · rw [if_neg z, if_pos (h2 ▸ c), hs]; exact Int32.add_zero _
theorem tl_b (hs : s = tuS a b i) (c : 0 ≤ wv i b) : s + 0 = tuS a b (i + 1) := by
  show _ = if 0 ≤ wv i b then tuS a b i else if a i = 0 then tuS a b i else tuS a b i + 1
  rw [if_pos c, hs]; exact Int32.add_zero _
theorem tl_c (hs : s = tuS a b i) (h2 : f i = a i) (z : ¬ f i = 0) (c : ¬ 0 ≤ wv i b) : s + 1 = tuS a b (i + 1) := by
  show _ = if 0 ≤ wv i b then tuS a b i else if a i = 0 then tuS a b i else tuS a b i + 1
  rw [if_neg c, if_neg (h2 ▸ z), hs]
theorem tl_v (h2 : f i = a i) : f i * wv i b = tuF a b i := by rw [h2]; exact tq
theorem dl_t (h : f i = a i) (c : abI (f i) < x) : 0 = doF a x i := by rw [← dq, ← h, if_neg (fun h2 => absurd c (Int32.not_lt.mpr h2))]
theorem dl_f (h : f i = a i) (c : ¬ abI (f i) < x) : f i = doF a x i := by rw [← dq, ← h, if_pos (Int32.not_lt.mp c)]
theorem cg_t (hs : s = cgS a g i) (h : f i = a i) (c : f i = g i) : s + 0 = cgS a g (i + 1) := by
  show _ = if a i = g i then cgS a g i else cgS a g i + 1
  rw [if_pos (h ▸ c), hs]; exact Int32.add_zero _
theorem cg_f (hs : s = cgS a g i) (h : f i = a i) (c : ¬ f i = g i) : s + 1 = cgS a g (i + 1) := by
  show _ = if a i = g i then cgS a g i else cgS a g i + 1
  rw [if_neg (h ▸ c), hs]
end
/-- the law's state: the class's wheels are the law's rows -/
def JL (lm nx ct : Nat) (I : Nat → Int32) (R : Nat → Nat → Int32) : Prop := lm < 256 ∧ I 4 = nI lm ∧ nx < 6 ∧ ct ≤ 6 ∧ I 1 = nI nx ∧ I 2 = nI ct ∧ R 0 = R 20 ∧ R 1 = R 22 ∧ R 21 = lbI lm ∧ I 5 = R 24 0 ∧ BdA (R 20) ∧ BdP (R 22)
theorem jl_mix {lm nx ct : Nat} {J : Nat → Int32} {R1 R2 : Nat → Nat → Int32} (hm : lm < 256) (h4 : J 4 = nI lm) (h1 : J 1 = nI ((nx + 1) % 6)) (h2 : J 2 = nI (min (ct + 1) 6)) (e0 : R1 0 = R2 20) (e1 : R1 1 = R2 22) (eb : R2 21 = lbI lm) (h5 : J 5 = R2 24 0) (ba : BdA (R2 20)) (bp : BdP (R2 22)) : JL lm ((nx + 1) % 6) (min (ct + 1) 6) J (mixR R1 R2) := by
  unfold JL
  exact ⟨hm, h4, Nat.mod_lt _ (by decide), by omega, h1, h2, e0, e1, eb, h5, ba, bp⟩
theorem pu_1 {I : Nat → Int32} {nx ct : Nat} : pushI I nx ct 1 = nI ((nx + 1) % 6) := rfl
theorem pu_2 {I : Nat → Int32} {nx ct : Nat} : pushI I nx ct 2 = nI (min (ct + 1) 6) := rfl
section
variable {D : va_G} {T : Nat → ClassId} {ad : Nat → Nat} {I : Nat → Int32} {R : Nat → Nat → Int32} {H : Heap} {a b a2 b2 : Nat → Int32}
theorem self2 (h : va_P D vwCl (qw T ad I R) H) : va_P D vwCl (qw T ad I (updR (updR R 20 (R 20)) 21 (R 21))) H := by
  have e : updR (updR R 20 (R 20)) 21 (R 21) = R := by rw [updR_self, updR_self]
  rw [e]; exact h
theorem fit_sh (h : va_P D vwCl (qw T ad I (updR (updR (updR (updR R 20 a) 21 b) 20 a2) 21 b2)) H) : va_P D vwCl (qw T ad I (updR (updR R 20 a2) 21 b2)) H := by
  have e : updR (updR (updR (updR R 20 a) 21 b) 20 a2) 21 b2 = updR (updR R 20 a2) 21 b2 := by
    rw [updR_comm (R := updR R 20 a) (a := 21) (b := 20) (by decide), updR_upd, updR_upd]
  rw [e] at h; exact h
end


/-! the reference's row of 25 numbers, read as the class's are -/
def us (z : Nat → Int32) (k : Nat) : Int32 := if z (8 + k) = 1 then 0 else z k
def qz (z : Nat → Int32) (n : Nat) : Int32 := z (16 + n)
def inI (v a b : Int32) : Int32 := if v < a then 0 else if b < v then 0 else 1
theorem in_01 (v a b : Int32) : inI v a b = 0 ∨ inI v a b = 1 := by
  unfold inI
  split
  · exact Or.inl rfl
  · split
    · exact Or.inl rfl
    · exact Or.inr rfl
theorem in_a {v a b : Int32} (h : v < a) : 0 = inI v a b := by unfold inI; rw [if_pos h]
theorem in_b {v a b : Int32} (h : ¬ v < a) (h2 : b < v) : 0 = inI v a b := by unfold inI; rw [if_neg h, if_pos h2]
theorem in_c {v a b : Int32} (h : ¬ v < a) (h2 : ¬ b < v) : 1 = inI v a b := by unfold inI; rw [if_neg h, if_neg h2]
theorem in_of0 {v a b : Int32} (h : outI v a b = 0) : inI v a b = 1 := by
  unfold outI at h
  unfold inI
  split at h
  · cases h
  · split at h
    · cases h
    · rename_i h1 h2; rw [if_neg h1, if_neg h2]
theorem in_of1 {v a b : Int32} (h : outI v a b = 1) : inI v a b = 0 := by
  unfold outI at h
  unfold inI
  split at h
  · rename_i h1; rw [if_pos h1]
  · rename_i h1
    split at h
    · rename_i h2; rw [if_neg h1, if_pos h2]
    · cases h
theorem ab_a {x : Int32} (h : 0 ≤ x) : x = abI x := by unfold abI; rw [if_pos h]
theorem ab_b {x : Int32} (h : ¬ 0 ≤ x) : -x = abI x := by unfold abI; rw [if_neg h, Int32.zero_sub]
theorem wvm0 : ∀ k, k < 8 → ∀ n, n < 8 → ((((nI k &&& nI n) ^^^ ((nI k &&& nI n) >>> (1 &&& 31))) ^^^ ((nI k &&& nI n) >>> (2 &&& 31))) &&& 1 = 0 ∧ wv k n = 1) ∨ (¬ (((nI k &&& nI n) ^^^ ((nI k &&& nI n) >>> (1 &&& 31))) ^^^ ((nI k &&& nI n) >>> (2 &&& 31))) &&& 1 = 0 ∧ wv k n = -1) := by decide +kernel
theorem wvm_t {k n : Nat} (hk : k < 8) (hn : n < 8) (h : (((nI k &&& nI n) ^^^ ((nI k &&& nI n) >>> (1 &&& 31))) ^^^ ((nI k &&& nI n) >>> (2 &&& 31))) &&& 1 = 0) : 1 = wv k n := by
  rcases wvm0 k hk n hn with ⟨_, b⟩ | ⟨a, _⟩
  · exact b.symm
  · exact absurd h a
theorem wvm_f {k n : Nat} (hk : k < 8) (hn : n < 8) (h : ¬ (((nI k &&& nI n) ^^^ ((nI k &&& nI n) >>> (1 &&& 31))) ^^^ ((nI k &&& nI n) >>> (2 &&& 31))) &&& 1 = 0) : -1 = wv k n := by
  rcases wvm0 k hk n hn with ⟨a, _⟩ | ⟨_, b⟩
  · exact absurd a h
  · exact b.symm
theorem us_t {z : Nat → Int32} {k : Nat} (h : z (8 + k) = 1) : 0 = us z k := by unfold us; rw [if_pos h]
theorem us_f {z : Nat → Int32} {k : Nat} (h : ¬ z (8 + k) = 1) : z k = us z k := by unfold us; rw [if_neg h]
theorem ch_t {k j : Nat} (h : wv k (j + 1) = wv k j) : chS k j + 0 = chS k (j + 1) := by
  show _ = chS k j + (if wv k j = wv k (j + 1) then 0 else 1)
  rw [if_pos h.symm]
theorem ch_f {k j : Nat} (h : ¬ wv k (j + 1) = wv k j) : chS k j + 1 = chS k (j + 1) := by
  show _ = chS k j + (if wv k j = wv k (j + 1) then 0 else 1)
  rw [if_neg (fun e => h e.symm)]
def wnM (z : Nat → Int32) (k w : Nat) : Int32 := if w = 0 then z k else if w = 1 then z (8 + k) else if w = 2 then psS (qz z) k 8 >>> (3 : Int32) else chS k 7
def loS (z : Nat → Int32) : Nat → Int32
  | 0 => 0
  | i + 1 => loS z i + z (8 + i)
section
variable {d f : Nat → Int32} {j : Nat} {y : Int32}
theorem gtm_a (h : y = gtS d j) (c : trS d (j + 1) 8 ≤ y) : y = gtS d (j + 1) := by
  show _ = if gtS d j < trS d (j + 1) 8 then trS d (j + 1) 8 else gtS d j
  rw [← h, if_neg (Int32.not_lt.mpr c)]
theorem gtm_b (h : y = gtS d j) (c : ¬ trS d (j + 1) 8 ≤ y) : trS d (j + 1) 8 = gtS d (j + 1) := by
  show _ = if gtS d j < trS d (j + 1) 8 then trS d (j + 1) 8 else gtS d j
  rw [← h, if_pos (Int32.not_le.mp c)]
theorem ltm_a (h : y = ltS d j) (c : y ≤ trS d (j + 1) 8) : y = ltS d (j + 1) := by
  show _ = if trS d (j + 1) 8 < ltS d j then trS d (j + 1) 8 else ltS d j
  rw [← h, if_neg (Int32.not_lt.mpr c)]
theorem ltm_b (h : y = ltS d j) (c : ¬ y ≤ trS d (j + 1) 8) : trS d (j + 1) 8 = ltS d (j + 1) := by
  show _ = if trS d (j + 1) 8 < ltS d j then trS d (j + 1) 8 else ltS d j
  rw [← h, if_pos (Int32.not_le.mp c)]
theorem gam_a (h : y = gaS f j) (c : abI (f j) ≤ y) : y = gaS f (j + 1) := by
  show _ = if gaS f j < abI (f j) then abI (f j) else gaS f j
  rw [← h, if_neg (Int32.not_lt.mpr c)]
theorem gam_b (h : y = gaS f j) (c : ¬ abI (f j) ≤ y) : abI (f j) = gaS f (j + 1) := by
  show _ = if gaS f j < abI (f j) then abI (f j) else gaS f j
  rw [← h, if_pos (Int32.not_le.mp c)]
theorem mxm_a (h : y = mxS d j) (c : d j * d j ≤ y) : y = mxS d (j + 1) := by
  show _ = if mxS d j < d j * d j then d j * d j else mxS d j
  rw [← h, if_neg (Int32.not_lt.mpr c)]
theorem mxm_b (h : y = mxS d j) (c : ¬ d j * d j ≤ y) : d j * d j = mxS d (j + 1) := by
  show _ = if mxS d j < d j * d j then d j * d j else mxS d j
  rw [← h, if_pos (Int32.not_le.mp c)]
theorem btm_a {g : Nat → Int32} {b : Nat} (h : b = btS g j) (c : g b ≤ g (j + 1)) : b = btS g (j + 1) := by
  show _ = if g (j + 1) < g (btS g j) then j + 1 else btS g j
  rw [← h, if_neg (Int32.not_lt.mpr c)]
theorem btm_b {g : Nat → Int32} {b : Nat} (h : b = btS g j) (c : ¬ g b ≤ g (j + 1)) : j + 1 = btS g (j + 1) := by
  show _ = if g (j + 1) < g (btS g j) then j + 1 else btS g j
  rw [← h, if_pos (Int32.not_le.mp c)]
end
def ovM (d : Nat → Int32) : Int32 := (if abI (gtS d 7) ≤ abI (ltS d 7) then abI (ltS d 7) else abI (gtS d 7)) - abI (d 0)
theorem ov_a {d : Nat → Int32} (c : abI (gtS d 7) ≤ abI (ltS d 7)) : abI (ltS d 7) - abI (d 0) = ovM d := by unfold ovM; rw [if_pos c]
theorem ov_b {d : Nat → Int32} (c : ¬ abI (gtS d 7) ≤ abI (ltS d 7)) : abI (gtS d 7) - abI (d 0) = ovM d := by unfold ovM; rw [if_neg c]
def cnM (z : Nat → Int32) (sv : Int32) (w : Nat) : Int32 := if w = 0 then cnS z 8 else if w = 1 then loS z 8 else if w = 2 then gtS (us z) 7 else if w = 3 then ltS (us z) 7 else if w = 4 then gaS (diF (qz z) (us z)) 8 else if w = 5 then gaS (juF (us z)) 8 else if w = 6 then ovM (us z) else if w = 7 then z 24 else sv
section
variable {z : Nat → Int32} {sv : Int32}
theorem cm0 : cnM z sv 0 = cnS z 8 := by simp [cnM]
theorem cm1 : cnM z sv 1 = loS z 8 := by simp [cnM]
theorem cm2 : cnM z sv 2 = gtS (us z) 7 := by simp [cnM]
theorem cm3 : cnM z sv 3 = ltS (us z) 7 := by simp [cnM]
theorem cm4 : cnM z sv 4 = gaS (diF (qz z) (us z)) 8 := by simp [cnM]
theorem cm5 : cnM z sv 5 = gaS (juF (us z)) 8 := by simp [cnM]
theorem cm6 : cnM z sv 6 = ovM (us z) := by simp [cnM]
theorem cm7 : cnM z sv 7 = z 24 := by simp [cnM]
theorem cm8 : cnM z sv 8 = sv := by simp [cnM]
end
theorem wv_00 : ∀ k, k < 8 → wv k 0 = 1 := by decide +kernel
theorem id_1 {f : Nat → Int32} {k : Nat} (hk : k < 8) : idS f (f 0) k 1 = 1 := by
  show (if f 0 = f 0 * wv k 0 then idS f (f 0) k 0 else 0) = 1
  rw [wv_00 k hk, Int32.mul_one, if_pos rfl]; rfl
theorem idm_0 {f : Nat → Int32} {x : Int32} {k n : Nat} (h : nI 0 = idS f x k n) : nI 0 = idS f x k (n + 1) := by
  show _ = if f n = x * wv k n then idS f x k n else 0
  rw [← h]; split <;> rfl
theorem idm_t {f : Nat → Int32} {x : Int32} {k n b : Nat} (h : nI b = idS f x k n) (hb : b ≤ 1) (h0 : ¬ b = 0) (c : f n = x * wv k n) : nI 1 = idS f x k (n + 1) := by
  show _ = if f n = x * wv k n then idS f x k n else 0
  rw [if_pos c, ← h, show b = 1 by omega]
theorem idm_f {f : Nat → Int32} {x : Int32} {k n : Nat} (c : ¬ f n = x * wv k n) : nI 0 = idS f x k (n + 1) := by
  show _ = if f n = x * wv k n then idS f x k n else 0
  rw [if_neg c]; rfl
theorem fl_end {P : Nat → Int32} {x : Int32} {i : Nat} (hi : 8 ≤ i) (h : x = flS P (8 - i) i) : -1 = x := by
  rw [show 8 - i = 0 by omega] at h; exact h.symm

/-! what the class and the reference answer, as plain functions of numbers -/
def ush (x n : Int32) : Int32 := (Int32.toUInt32 x >>> (Int32.toUInt32 n &&& Int32.toUInt32 31)).toInt32
def bc1 (x : Int32) : Int32 := x - (ush x 1 &&& 1431655765)
def bc2 (x : Int32) : Int32 := (x &&& 858993459) + (ush x 2 &&& 858993459)
def bc3 (x : Int32) : Int32 := (x + ush x 4) &&& 252645135
def bc4 (x : Int32) : Int32 := x + ush x 8
def bc5 (x : Int32) : Int32 := x + ush x 16
/-- how many bits a number has -/
def bcF (x : Int32) : Int32 := bc5 (bc4 (bc3 (bc2 (bc1 x)))) &&& 63
/-- the wave of the wheel k at the point n -/
def wv (k n : Nat) : Int32 := if ((k &&& n) % 2 + (k &&& n) / 2 % 2 + (k &&& n) / 4 % 2) % 2 = 0 then 1 else -1
theorem all8 {P : Nat → Prop} (h0 : P 0) (h1 : P 1) (h2 : P 2) (h3 : P 3) (h4 : P 4) (h5 : P 5) (h6 : P 6) (h7 : P 7) : ∀ k, k < 8 → P k := fun k hk => match k, hk with
  | 0, _ => h0 | 1, _ => h1 | 2, _ => h2 | 3, _ => h3 | 4, _ => h4 | 5, _ => h5 | 6, _ => h6 | 7, _ => h7
  | _ + 8, h => absurd h (by omega)
theorem wv_bc0 : ∀ k, k < 8 → ∀ n, n < 8 → ((bcF (nI k &&& nI n) &&& 1 = 0 ∧ wv k n = 1) ∨ (¬ bcF (nI k &&& nI n) &&& 1 = 0 ∧ wv k n = -1)) := by decide +kernel
theorem wv_t {k n : Nat} (hk : k < 8) (hn : n < 8) (h : bcF (nI k &&& nI n) &&& 1 = 0) : 1 = wv k n := by
  rcases wv_bc0 k hk n hn with ⟨_, b⟩ | ⟨a, _⟩
  · exact b.symm
  · exact absurd h a
theorem wv_f {k n : Nat} (hk : k < 8) (hn : n < 8) (h : ¬ bcF (nI k &&& nI n) &&& 1 = 0) : -1 = wv k n := by
  rcases wv_bc0 k hk n hn with ⟨a, _⟩ | ⟨_, b⟩
  · exact absurd a h
  · exact b.symm
/-- is the bit k of m set -/
def lbI (m k : Nat) : Int32 := nI (m / 2 ^ k % 2)
theorem lb_shr0 : ∀ k, k < 8 → ∀ m, m < 256 → (nI m >>> (nI k &&& 31)) &&& 1 = lbI m k := by decide +kernel
theorem lb_shr {m k : Nat} (hm : m < 256) (hk : k < 8) : (nI m >>> (nI k &&& 31)) &&& 1 = lbI m k := lb_shr0 k hk m hm
theorem lb_01 (m k : Nat) : lbI m k = 0 ∨ lbI m k = 1 := by
  have h : m / 2 ^ k % 2 = 0 ∨ m / 2 ^ k % 2 = 1 := by omega
  unfold lbI
  rcases h with h | h
  · rw [h]; exact Or.inl rfl
  · rw [h]; exact Or.inr rfl
theorem lb_ne1 {m k : Nat} (h : ¬ lbI m k = 1) : lbI m k = 0 := (lb_01 m k).resolve_right h
theorem lb_ne0 {m k : Nat} (h : ¬ lbI m k = 0) : lbI m k = 1 := (lb_01 m k).resolve_left h
/-- what a wheel draws -/
def dr (a : Nat → Int32) (m k : Nat) : Int32 := if lbI m k = 0 then a k else 0
theorem dr_t {a : Nat → Int32} {m k : Nat} (h : lbI m k = 0) : a k = dr a m k := by simp [dr, h]
theorem dr_f {a : Nat → Int32} {m k : Nat} (h : ¬ lbI m k = 0) : 0 = dr a m k := by simp [dr, h]
/-- the trace at n, of the wheels below i -/
def trS (d : Nat → Int32) (n : Nat) : Nat → Int32
  | 0 => 0
  | i + 1 => trS d n i + d i * wv i n
/-- the sum of a pattern times the wave of k, of the points below i -/
def psS (q : Nat → Int32) (k : Nat) : Nat → Int32
  | 0 => 0
  | i + 1 => psS q k i + q i * wv k i
/-- how many are not 0, below i -/
def cnS (a : Nat → Int32) : Nat → Int32
  | 0 => 0
  | i + 1 => cnS a i + (if a i = 0 then 0 else 1)
theorem cn_t {a : Nat → Int32} {i : Nat} (h : a i = 0) : cnS a i + 0 = cnS a (i + 1) := by simp [cnS, h]
theorem cn_f {a : Nat → Int32} {i : Nat} (h : ¬ a i = 0) : cnS a i + 1 = cnS a (i + 1) := by simp [cnS, h]
def outI (x a b : Int32) : Int32 := if x < a then 1 else if b < x then 1 else 0
theorem out_01 (x a b : Int32) : outI x a b = 0 ∨ outI x a b = 1 := by
  unfold outI
  split
  · exact Or.inr rfl
  · split
    · exact Or.inr rfl
    · exact Or.inl rfl
theorem nar01 {v : Int32} (h : v = 0 ∨ v = 1) : narrow .boolean (.int v) = .int v := by
  rcases h with h | h <;> subst h <;> rfl
theorem out_k {k n : Nat} (h : k ≤ n) (hn : n < 2 ^ 31) : outI (nI k) 0 (nI n) = 0 := by
  have h1 : ¬ nI k < 0 := nI_pos (Nat.lt_of_le_of_lt h hn)
  have h2 : ¬ nI n < nI k := nI_nlt h (by omega)
  unfold outI
  rw [if_neg h1, if_neg h2]
theorem out_8 {k : Nat} (h : k < 8) : outI (nI k) 0 7 = 0 := out_k (n := 7) (by omega) (by decide)
theorem nI_xor0 : ∀ a, a < 8 → ∀ b, b < 8 → nI a ^^^ nI b = nI (a ^^^ b) := by decide +kernel
theorem nI_xor {a b : Nat} (ha : a < 8) (hb : b < 8) : nI a ^^^ nI b = nI (a ^^^ b) := nI_xor0 a ha b hb
theorem xor_lt {a b : Nat} (ha : a < 8) (hb : b < 8) : a ^^^ b < 8 := Nat.xor_lt_two_pow (n := 3) ha hb
/-- how often the wave of k changes, of the points below i -/
def chS (k : Nat) : Nat → Int32
  | 0 => 0
  | i + 1 => chS k i + (if wv k i = wv k (i + 1) then 0 else 1)
def wnF (a q : Nat → Int32) (m k w : Nat) : Int32 := if w = 0 then a k else if w = 1 then lbI m k else if w = 2 then psS q k 8 >>> (3 : Int32) else chS k 7
/-- the greatest, the least trace of the points up to i -/
def gtS (d : Nat → Int32) : Nat → Int32
  | 0 => trS d 0 8
  | i + 1 => if gtS d i < trS d (i + 1) 8 then trS d (i + 1) 8 else gtS d i
def ltS (d : Nat → Int32) : Nat → Int32
  | 0 => trS d 0 8
  | i + 1 => if trS d (i + 1) 8 < ltS d i then trS d (i + 1) 8 else ltS d i
def abI (x : Int32) : Int32 := if 0 ≤ x then x else 0 - x
/-- the greatest of f, without sign, below i -/
def gaS (f : Nat → Int32) : Nat → Int32
  | 0 => 0
  | i + 1 => if gaS f i < abI (f i) then abI (f i) else gaS f i
def diF (q d : Nat → Int32) (n : Nat) : Int32 := q n - trS d n 8
def juF (d : Nat → Int32) (n : Nat) : Int32 := trS d ((n + 1) % 8) 8 - trS d n 8
def ovF (d : Nat → Int32) : Int32 := (if gtS d 7 < -(ltS d 7) then -(ltS d 7) else gtS d 7) - abI (d 0)
def pnF (q d : Nat → Int32) (n w : Nat) : Int32 := if w = 0 then q n else if w = 1 then diF q d n else juF d n
/-- is f the number x times the wave of k, below i -/
def idS (f : Nat → Int32) (x : Int32) (k : Nat) : Nat → Int32
  | 0 => 1
  | i + 1 => if f i = x * wv k i then idS f x k i else 0
theorem id_up {f : Nat → Int32} {x : Int32} {k i : Nat} (h : idS f x k i = 0) : ∀ j, idS f x k (i + j) = 0 := by
  intro j
  induction j with
  | zero => exact h
  | succ j ih =>
    show (if f (i + j) = x * wv k (i + j) then idS f x k (i + j) else 0) = 0
    rw [ih]
    split <;> rfl
theorem id_f {f : Nat → Int32} {x : Int32} {k i : Nat} (hi : i < 8) (h : ¬ f i = x * wv k i) : 0 = idS f x k 8 := by
  have h1 : idS f x k (i + 1) = 0 := by simp [idS, h]
  have h2 := id_up h1 (8 - (i + 1))
  rw [show i + 1 + (8 - (i + 1)) = 8 by omega] at h2
  exact h2.symm
theorem id_t {f : Nat → Int32} {x : Int32} {k i : Nat} (h0 : idS f x k i = 1) (h : f i = x * wv k i) : idS f x k (i + 1) = 1 := by simp [idS, h, h0]
theorem id_01 (f : Nat → Int32) (x : Int32) (k : Nat) : ∀ i, idS f x k i = 0 ∨ idS f x k i = 1
  | 0 => Or.inr rfl
  | i + 1 => by
    show (if f i = x * wv k i then idS f x k i else 0) = 0 ∨ (if f i = x * wv k i then idS f x k i else 0) = 1
    split
    · exact id_01 f x k i
    · exact Or.inl rfl
/-- the first place from i on, of n, where P is not 0 -/
def flS (P : Nat → Int32) : Nat → Nat → Int32
  | 0, _ => -1
  | n + 1, i => if P i = 0 then flS P n (i + 1) else nI i
theorem fl_hit {P : Nat → Int32} {i : Nat} (hi : i < 8) (h : ¬ P i = 0) : nI i = flS P (8 - i) i := by
  rw [show 8 - i = (7 - i) + 1 by omega]
  simp [flS, h]
theorem fl_miss {P : Nat → Int32} {i : Nat} (hi : i < 8) (h : P i = 0) : flS P (8 - i) i = flS P (8 - (i + 1)) (i + 1) := by
  rw [show 8 - i = (8 - (i + 1)) + 1 by omega]
  simp [flS, h]
def flF (f : Nat → Int32) : Int32 := if f 0 = 0 then -1 else flS (fun k => idS f (f 0) k 8) 8 0
/-- how far the trace of a drum turned by b is from the pattern, of the points below i -/
def dtS (q d : Nat → Int32) (b : Nat) : Nat → Int32
  | 0 => 0
  | i + 1 => dtS q d b i + abI (q i - trS d (i ^^^ b) 8)
/-- the place up to j where g is the least, of several the least -/
def btS (g : Nat → Int32) : Nat → Nat
  | 0 => 0
  | j + 1 => if g (j + 1) < g (btS g j) then j + 1 else btS g j
theorem bt_le (g : Nat → Int32) : ∀ j, btS g j ≤ j
  | 0 => Nat.le_refl 0
  | j + 1 => by
    have h := bt_le g j
    show (if g (j + 1) < g (btS g j) then j + 1 else btS g j) ≤ j + 1
    split <;> omega
def cnF (a q : Nat → Int32) (m : Nat) (fi sv : Int32) (w : Nat) : Int32 := if w = 0 then cnS a 8 else if w = 1 then bcF (nI m) else if w = 2 then gtS (dr a m) 7 else if w = 3 then ltS (dr a m) 7 else if w = 4 then gaS (diF q (dr a m)) 8 else if w = 5 then gaS (juF (dr a m)) 8 else if w = 6 then ovF (dr a m) else if w = 7 then fi else sv
/-! floorDiv by 8 -/
theorem toI_le (x y : Int32) : x ≤ y ↔ x.toInt ≤ y.toInt := Int32.le_iff_toInt_le
theorem xor8 {x : Int32} (h : 0 ≤ x ^^^ 8) : 0 ≤ x.toInt := by
  rcases Int.lt_or_le x.toInt 0 with h1 | h1
  · exfalso
    have h2 : (0 : Int) ≤ (x ^^^ 8).toInt := (toI_le _ _).mp h
    have e1 : x.toBitVec.msb = true := by rw [BitVec.msb_eq_toInt]; exact decide_eq_true h1
    have e2 : (x ^^^ 8).toBitVec.msb = true := by
      rw [Int32.toBitVec_xor, BitVec.msb_xor, e1]; rfl
    rw [BitVec.msb_eq_toInt] at e2
    have e3 := of_decide_eq_true e2
    have e4 : (x ^^^ 8).toInt < 0 := e3
    omega
  · exact h1
theorem xor8n {x : Int32} (h : ¬ 0 ≤ x ^^^ 8) : x.toInt < 0 := by
  rcases Int.lt_or_le x.toInt 0 with h1 | h1
  · exact h1
  · exfalso
    apply h
    refine (toI_le _ _).mpr ?_
    rcases Int.lt_or_le (x ^^^ 8).toInt 0 with h2 | h2
    · exfalso
      have e1 : x.toBitVec.msb = false := by rw [BitVec.msb_eq_toInt]; exact decide_eq_false (by show ¬ x.toInt < 0; omega)
      have e2 : (x ^^^ 8).toBitVec.msb = false := by
        rw [Int32.toBitVec_xor, BitVec.msb_xor, e1]; rfl
      rw [BitVec.msb_eq_toInt] at e2
      have e3 := of_decide_eq_false e2
      exact e3 h2
    · exact h2
theorem shr3 (x : Int32) : (x >>> (3 : Int32)).toInt = x.toInt / 8 := by
  rw [pk_shr x 3 3 (by decide), Int.shiftRight_eq_div_pow]
  rfl
theorem div8 (x : Int32) : (x / 8).toInt = x.toInt.tdiv 8 := by
  have h : (8 : Int32) ≠ -1 := by decide
  rw [Int32.toInt_div_of_ne_right _ _ h]
  rfl
theorem fd_a {x : Int32} (h : 0 ≤ x ^^^ 8) : x / 8 = x >>> (3 : Int32) := by
  apply Int32.toInt_inj.mp
  rw [div8, shr3, Int.tdiv_eq_ediv_of_nonneg (xor8 h)]
theorem td8 (a : Int) : (0 ≤ a ∧ a.tdiv 8 = a / 8) ∨ (a < 0 ∧ a.tdiv 8 = -((-a) / 8)) := by
  rcases Int.lt_or_le a 0 with h | h
  · refine Or.inr ⟨h, ?_⟩
    have h1 : (-a).tdiv 8 = (-a) / 8 := Int.tdiv_eq_ediv_of_nonneg (by omega)
    rw [Int.neg_tdiv] at h1
    omega
  · exact Or.inl ⟨h, Int.tdiv_eq_ediv_of_nonneg h⟩
theorem mul8 (x : Int32) : (x / 8 * 8).toInt = x.toInt.tdiv 8 * 8 := by
  have h1 := x.le_toInt
  have h2 := x.toInt_lt
  rw [Int32.toInt_mul, div8]
  have e : (8 : Int32).toInt = 8 := rfl
  have h3 := td8 x.toInt
  rw [e, Int.bmod_eq_of_le] <;> omega
theorem fd_b {x : Int32} (h : x / 8 * 8 = x) : x / 8 = x >>> (3 : Int32) := by
  apply Int32.toInt_inj.mp
  have h1 := congrArg Int32.toInt h
  rw [mul8] at h1
  have h3 := td8 x.toInt
  rw [div8, shr3]
  omega
theorem fd_c {x : Int32} (h : ¬ 0 ≤ x ^^^ 8) (h2 : ¬ x / 8 * 8 = x) : x / 8 - 1 = x >>> (3 : Int32) := by
  have hn := xor8n h
  have hne : x.toInt.tdiv 8 * 8 ≠ x.toInt := fun e => h2 (Int32.toInt_inj.mp (by rw [mul8]; exact e))
  apply Int32.toInt_inj.mp
  have l1 := x.le_toInt
  have l2 := x.toInt_lt
  rw [Int32.toInt_sub, div8, shr3]
  have e : (1 : Int32).toInt = 1 := rfl
  have h3 := td8 x.toInt
  rw [e, Int.bmod_eq_of_le] <;> omega
section
variable {a q : Nat → Int32} {m : Nat} {fi sv : Int32}
theorem cn0 : cnF a q m fi sv 0 = cnS a 8 := by simp [cnF]
theorem cn1 : cnF a q m fi sv 1 = bcF (nI m) := by simp [cnF]
theorem cn2 : cnF a q m fi sv 2 = gtS (dr a m) 7 := by simp [cnF]
theorem cn3 : cnF a q m fi sv 3 = ltS (dr a m) 7 := by simp [cnF]
theorem cn4 : cnF a q m fi sv 4 = gaS (diF q (dr a m)) 8 := by simp [cnF]
theorem cn5 : cnF a q m fi sv 5 = gaS (juF (dr a m)) 8 := by simp [cnF]
theorem cn6 : cnF a q m fi sv 6 = ovF (dr a m) := by simp [cnF]
theorem cn7 : cnF a q m fi sv 7 = fi := by simp [cnF]
theorem cn8 : cnF a q m fi sv 8 = sv := by simp [cnF]
end
/-! rows of eight: halves, the least, sets -/
theorem trS_congr {d g : Nat → Int32} {n : Nat} : ∀ {i : Nat}, (∀ k, k < i → d k = g k) → trS d n i = trS g n i
  | 0, _ => rfl
  | i + 1, h => by
    show trS d n i + d i * wv i n = trS g n i + g i * wv i n
    rw [trS_congr (fun k hk => h k (Nat.lt_succ_of_lt hk)), h i (Nat.lt_succ_self i)]
def oI : Option Nat → Int32
  | none => -1
  | some k => nI k
theorem nI_ne_m1 {k : Nat} (h : k < 2 ^ 31) : ¬ nI k = -1 := fun e => by
  have h1 := congrArg Int32.toInt e
  rw [nI_toInt h] at h1
  have h2 : (-1 : Int32).toInt = -1 := rfl
  omega
/-- the place of the least of the places below i that are above 0 -/
def liS (f : Nat → Int32) : Nat → Option Nat
  | 0 => none
  | i + 1 => if f i ≤ 0 then liS f i else match liS f i with
    | none => some i
    | some k => if f k ≤ f i then some k else some i
theorem li_lt {f : Nat → Int32} : ∀ {i k : Nat}, liS f i = some k → k < i
  | 0, k, h => by cases h
  | i + 1, k, h => by
    unfold liS at h
    split at h
    · exact Nat.lt_succ_of_lt (li_lt h)
    · split at h
      · cases h; exact Nat.lt_succ_self i
      · rename_i k0 h0
        split at h
        · cases h; exact Nat.lt_succ_of_lt (li_lt h0)
        · cases h; exact Nat.lt_succ_self i
theorem li_a {f : Nat → Int32} {i : Nat} {o : Option Nat} (c : f i ≤ 0) (h : o = liS f i) : o = liS f (i + 1) := by
  unfold liS; rw [if_pos c]; exact h
theorem li_b {f : Nat → Int32} {i : Nat} (c : ¬ f i ≤ 0) (h : none = liS f i) : some i = liS f (i + 1) := by
  unfold liS; rw [if_neg c, ← h]
theorem li_c {f : Nat → Int32} {i k : Nat} (c : ¬ f i ≤ 0) (h : some k = liS f i) (c2 : ¬ f k ≤ f i) : some i = liS f (i + 1) := by
  unfold liS; rw [if_neg c, ← h]; simp [c2]
theorem li_d {f : Nat → Int32} {i k : Nat} (c : ¬ f i ≤ 0) (h : some k = liS f i) (c2 : f k ≤ f i) : some k = liS f (i + 1) := by
  unfold liS; rw [if_neg c, ← h]; simp [c2]
/-- how many are above 0, below i -/
def poS (f : Nat → Int32) : Nat → Int32
  | 0 => 0
  | i + 1 => poS f i + (if f i ≤ 0 then 0 else 1)
theorem po_t {f : Nat → Int32} {i : Nat} (h : f i ≤ 0) : poS f i + 0 = poS f (i + 1) := by simp [poS, h]
theorem po_f {f : Nat → Int32} {i : Nat} (h : ¬ f i ≤ 0) : poS f i + 1 = poS f (i + 1) := by simp [poS, h]
/-- how many are left, told by leaving out the least -/
def fbR : Nat → (Nat → Int32) → Int32 → Int32 → Int32
  | 0, _, _, le => le
  | n + 1, f, al, le => match liS f 8 with
    | none => le
    | some w => if f w ≤ al then fbR n (upd f w 0) (al - f w) (le + (-1)) else le
theorem fb_none {st : Nat} {f : Nat → Int32} {al le : Int32} (h : st < 8) (c : liS f 8 = none) : fbR (8 - st) f al le = le := by
  rw [show 8 - st = (7 - st) + 1 by omega]; unfold fbR; rw [c]
theorem fb_stop {st w : Nat} {f : Nat → Int32} {al le : Int32} (h : st < 8) (c : liS f 8 = some w) (c2 : ¬ f w ≤ al) : fbR (8 - st) f al le = le := by
  rw [show 8 - st = (7 - st) + 1 by omega]; unfold fbR; rw [c]; simp [c2]
theorem fb_go {st w : Nat} {f : Nat → Int32} {al le : Int32} (h : st < 8) (c : liS f 8 = some w) (c2 : f w ≤ al) : fbR (8 - st) f al le = fbR (8 - (st + 1)) (upd f w 0) (al - f w) (le + (-1)) := by
  rw [show 8 - st = (8 - (st + 1)) + 1 by omega]; conv => lhs; unfold fbR
  rw [c]; simp [c2]
/-- a set of wheels: the error of those that are not in it, how many of it draw -/
def seE (f : Nat → Int32) (K : Nat) : Nat → Int32
  | 0 => 0
  | i + 1 => if lbI K i = 0 then seE f K i + f i else seE f K i
def seW (f : Nat → Int32) (K : Nat) : Nat → Int32
  | 0 => 0
  | i + 1 => if lbI K i = 0 then seW f K i else if f i ≤ 0 then seW f K i else seW f K i + 1
def faS (f : Nat → Int32) (x : Int32) : Nat → Int32
  | 0 => 8
  | K + 1 => if x < seE f K 8 then faS f x K else if faS f x K ≤ seW f K 8 then faS f x K else seW f K 8
def erF (a : Nat → Int32) (m : Nat) : Nat → Int32 := fun k => 8 * dr a m k * dr a m k
def feF (f : Nat → Int32) (x : Int32) (w : Nat) : Int32 := if w = 0 then fbR 8 f x (poS f 8) else faS f x 256
theorem up_lt {f g : Nat → Int32} {i : Nat} {x : Int32} (h : ∀ k, k < i → f k = g k) (hx : x = g i) : ∀ k, k < i + 1 → upd f i x k = g k := fun k hk => by
  unfold upd
  split
  · rename_i e; rw [e]; exact hx
  · exact h k (by omega)
/-! texts -/
def ltI (x : Int32) : Int32 := if x < 97 then 0 else if 104 < x then 0 else 1
def dgI (x : Int32) : Int32 := if x < 48 then 0 else if 57 < x then 0 else 1
def fdO (x : Int32) : Option Nat := if dgI x = 0 then none else if x = 48 then some 5 else some 4
def wbO (x : Int32) : Option Nat := if x = 59 then some 0 else none
/-- the place behind a sign; none: it is an error there -/
def pbO (p : Nat) (x : Int32) : Option Nat := if p = 0 then (if ltI x = 0 then none else some 1) else if p = 1 then (if x = 61 then some 2 else if x = 33 then some 5 else none) else if p = 2 then (if x = 45 then some 3 else fdO x) else if p = 3 then (if x = 48 then none else fdO x) else if p = 4 then (if dgI x = 0 then wbO x else some 5) else wbO x
theorem fd_lt {x : Int32} {p : Nat} (h : fdO x = some p) : p < 6 := by
  unfold fdO at h
  split at h
  · cases h
  · split at h <;> cases h <;> decide
theorem wb_lt {x : Int32} {p : Nat} (h : wbO x = some p) : p < 6 := by
  unfold wbO at h
  split at h <;> cases h
  decide
theorem pb_lt {x : Int32} {p q : Nat} (h : pbO p x = some q) : q < 6 := by
  unfold pbO at h
  repeat' split at h
  all_goals first | (cases h; done) | (cases h; decide) | exact fd_lt h | exact wb_lt h
/-- the place behind the first i signs -/
def plS (t : Nat → Int32) : Nat → Option Nat
  | 0 => some 0
  | i + 1 => match plS t i with
    | none => none
    | some p => pbO p (t i)
theorem pl_lt {t : Nat → Int32} : ∀ {i p : Nat}, plS t i = some p → p < 6
  | 0, p, h => by cases h; decide
  | i + 1, p, h => by
    unfold plS at h
    split at h
    · cases h
    · exact pb_lt h
theorem pl_s {t : Nat → Int32} {i p : Nat} (h : plS t i = some p) : plS t (i + 1) = pbO p (t i) := by
  unfold plS; rw [h]
theorem pl_n {t : Nat → Int32} {i : Nat} (h : plS t i = none) : ∀ j, plS t (i + j) = none
  | 0 => h
  | j + 1 => by
    show (match plS t (i + j) with | none => none | some p => pbO p (t (i + j))) = none
    rw [pl_n h j]
/-- the first place from i on, of n, whose sign is an error -/
def epG (t : Nat → Int32) : Nat → Nat → Nat
  | 0, i => i
  | n + 1, i => match plS t (i + 1) with
    | none => i
    | some _ => epG t n (i + 1)
theorem ep_n {t : Nat → Int32} {len i : Nat} (hi : i < len) (h : plS t (i + 1) = none) : epG t (len - i) i = i := by
  rw [show len - i = (len - i - 1) + 1 by omega]; unfold epG; rw [h]
theorem ep_s {t : Nat → Int32} {len i p : Nat} (hi : i < len) (h : plS t (i + 1) = some p) : epG t (len - i) i = epG t (len - (i + 1)) (i + 1) := by
  rw [show len - i = (len - (i + 1)) + 1 by omega]; conv => lhs; unfold epG
  rw [h]
def twF (o : Option Nat) : Int32 := if o = some 4 then 1 else if o = some 5 then 1 else 0
theorem nar_c {q : Nat} (h : q < 65536) : vp_nar .char (nI q) = nI q := by
  unfold vp_nar; rw [(pk_charN h).1]
theorem fa_a {f : Nat → Int32} {x e fw : Int32} {K : Nat} (he : e = seE f K 8) (hf : fw = faS f x K) (c : x < e) : fw = faS f x (K + 1) := by
  subst he; subst hf
  show _ = if x < seE f K 8 then faS f x K else if faS f x K ≤ seW f K 8 then faS f x K else seW f K 8
  rw [if_pos c]
theorem fa_b {f : Nat → Int32} {x e fw w : Int32} {K : Nat} (he : e = seE f K 8) (hw : w = seW f K 8) (hf : fw = faS f x K) (c : ¬ x < e) (c2 : fw ≤ w) : fw = faS f x (K + 1) := by
  subst he; subst hw; subst hf
  show _ = if x < seE f K 8 then faS f x K else if faS f x K ≤ seW f K 8 then faS f x K else seW f K 8
  rw [if_neg c, if_pos c2]
theorem fa_c {f : Nat → Int32} {x e fw w : Int32} {K : Nat} (he : e = seE f K 8) (hw : w = seW f K 8) (hf : fw = faS f x K) (c : ¬ x < e) (c2 : ¬ fw ≤ w) : w = faS f x (K + 1) := by
  subst he; subst hw; subst hf
  show _ = if x < seE f K 8 then faS f x K else if faS f x K ≤ seW f K 8 then faS f x K else seW f K 8
  rw [if_neg c, if_neg c2]
section
variable {x : Int32} {pp : Nat}
theorem lt_a (h : x < 97) : 0 = ltI x := by unfold ltI; rw [if_pos h]
theorem lt_b (h : ¬ x < 97) (h2 : 104 < x) : 0 = ltI x := by unfold ltI; rw [if_neg h, if_pos h2]
theorem lt_c (h : ¬ x < 97) (h2 : ¬ 104 < x) : 1 = ltI x := by unfold ltI; rw [if_neg h, if_neg h2]
theorem dg_a (h : x < 48) : 0 = dgI x := by unfold dgI; rw [if_pos h]
theorem dg_b (h : ¬ x < 48) (h2 : 57 < x) : 0 = dgI x := by unfold dgI; rw [if_neg h, if_pos h2]
theorem dg_c (h : ¬ x < 48) (h2 : ¬ 57 < x) : 1 = dgI x := by unfold dgI; rw [if_neg h, if_neg h2]
theorem fdo_a (h : dgI x = 0) : -1 = oI (fdO x) := by unfold fdO; rw [if_pos h]; rfl
theorem fdo_b (h : ¬ dgI x = 0) (h2 : x = 48) : 5 = oI (fdO x) := by unfold fdO; rw [if_neg h, if_pos h2]; rfl
theorem fdo_c (h : ¬ dgI x = 0) (h2 : ¬ x = 48) : 4 = oI (fdO x) := by unfold fdO; rw [if_neg h, if_neg h2]; rfl
theorem wbo_a (h : x = 59) : 0 = oI (wbO x) := by unfold wbO; rw [if_pos h]; rfl
theorem wbo_b (h : ¬ x = 59) : -1 = oI (wbO x) := by unfold wbO; rw [if_neg h]; rfl
theorem pb0 : pbO 0 x = if ltI x = 0 then none else some 1 := rfl
theorem pb1 : pbO 1 x = if x = 61 then some 2 else if x = 33 then some 5 else none := rfl
theorem pb2 : pbO 2 x = if x = 45 then some 3 else fdO x := rfl
theorem pb3 : pbO 3 x = if x = 48 then none else fdO x := rfl
theorem pb4 : pbO 4 x = if dgI x = 0 then wbO x else some 5 := rfl
theorem pb5 : pbO 5 x = wbO x := rfl
theorem pb0a (h : ltI x = 0) : -1 = oI (pbO 0 x) := by rw [pb0, if_pos h]; rfl
theorem pb0b (h : ¬ ltI x = 0) : 1 = oI (pbO 0 x) := by rw [pb0, if_neg h]; rfl
theorem pb1a (h : x = 61) : 2 = oI (pbO 1 x) := by rw [pb1, if_pos h]; rfl
theorem pb1b (h : ¬ x = 61) (h2 : x = 33) : 5 = oI (pbO 1 x) := by rw [pb1, if_neg h, if_pos h2]; rfl
theorem pb1c (h : ¬ x = 61) (h2 : ¬ x = 33) : -1 = oI (pbO 1 x) := by rw [pb1, if_neg h, if_neg h2]; rfl
theorem pb2a (h : x = 45) : 3 = oI (pbO 2 x) := by rw [pb2, if_pos h]; rfl
theorem pb2b (h : ¬ x = 45) : oI (fdO x) = oI (pbO 2 x) := by rw [pb2, if_neg h]
theorem pb3a (h : x = 48) : -1 = oI (pbO 3 x) := by rw [pb3, if_pos h]; rfl
theorem pb3b (h : ¬ x = 48) : oI (fdO x) = oI (pbO 3 x) := by rw [pb3, if_neg h]
theorem pb4a (h : dgI x = 0) : oI (wbO x) = oI (pbO 4 x) := by rw [pb4, if_pos h]
theorem pb4b (h : ¬ dgI x = 0) : 5 = oI (pbO 4 x) := by rw [pb4, if_neg h]; rfl
theorem pb5a : oI (wbO x) = oI (pbO 5 x) := by rw [pb5]
theorem tw_n : 0 = twF none := rfl
theorem tw_4 (h : pp = 4) : 1 = twF (some pp) := by rw [h]; rfl
theorem tw_5 (h : pp = 5) : 1 = twF (some pp) := by rw [h]; rfl
theorem tw_0 (h : ¬ pp = 4) (h2 : ¬ pp = 5) : 0 = twF (some pp) := by
  unfold twF
  rw [if_neg (fun e => h (Option.some.inj e)), if_neg (fun e => h2 (Option.some.inj e))]
end
/-! the wheels that a text tells: amplitudes, lost wheels, the wheel at hand, is there a minus -/
def tt (t : Nat → Int32) : Nat → (Nat → Int32) × Nat × Nat × Nat
  | 0 => (fun _ => 0, 0, 0, 0)
  | i + 1 => if ltI (t i) = 0 then
      if t i = 33 then ((tt t i).1, (tt t i).2.1 ||| 2 ^ (tt t i).2.2.1, (tt t i).2.2.1, (tt t i).2.2.2)
      else if t i = 61 then (upd (tt t i).1 (tt t i).2.2.1 0, (tt t i).2.1, (tt t i).2.2.1, 0)
      else if t i = 45 then ((tt t i).1, (tt t i).2.1, (tt t i).2.2.1, 1)
      else if dgI (t i) = 0 then tt t i
      else if (tt t i).2.2.2 = 0 then (upd (tt t i).1 (tt t i).2.2.1 ((tt t i).1 (tt t i).2.2.1 * 10 + (t i - 48)), (tt t i).2.1, (tt t i).2.2.1, (tt t i).2.2.2)
      else (upd (tt t i).1 (tt t i).2.2.1 ((tt t i).1 (tt t i).2.2.1 * 10 + -(t i - 48)), (tt t i).2.1, (tt t i).2.2.1, (tt t i).2.2.2)
    else ((tt t i).1, (tt t i).2.1, (t i - 97).toNatClampNeg, (tt t i).2.2.2)
section
variable {t f : Nat → Int32} {i m w ng : Nat}
theorem tt_a (h : tt t i = (f, m, w, ng)) (c : ¬ ltI (t i) = 0) : tt t (i + 1) = (f, m, (t i - 97).toNatClampNeg, ng) := by unfold tt; rw [h, if_neg c]
theorem tt_b (h : tt t i = (f, m, w, ng)) (c : ltI (t i) = 0) (c2 : t i = 33) : tt t (i + 1) = (f, m ||| 2 ^ w, w, ng) := by unfold tt; rw [h, if_pos c, if_pos c2]
theorem tt_c (h : tt t i = (f, m, w, ng)) (c : ltI (t i) = 0) (c2 : ¬ t i = 33) (c3 : t i = 61) : tt t (i + 1) = (upd f w 0, m, w, 0) := by unfold tt; rw [h, if_pos c, if_neg c2, if_pos c3]
theorem tt_d (h : tt t i = (f, m, w, ng)) (c : ltI (t i) = 0) (c2 : ¬ t i = 33) (c3 : ¬ t i = 61) (c4 : t i = 45) : tt t (i + 1) = (f, m, w, 1) := by unfold tt; rw [h, if_pos c, if_neg c2, if_neg c3, if_pos c4]
theorem tt_e (h : tt t i = (f, m, w, ng)) (c : ltI (t i) = 0) (c2 : ¬ t i = 33) (c3 : ¬ t i = 61) (c4 : ¬ t i = 45) (c5 : dgI (t i) = 0) : tt t (i + 1) = (f, m, w, ng) := by unfold tt; rw [h, if_pos c, if_neg c2, if_neg c3, if_neg c4, if_pos c5]
theorem tt_f (h : tt t i = (f, m, w, ng)) (c : ltI (t i) = 0) (c2 : ¬ t i = 33) (c3 : ¬ t i = 61) (c4 : ¬ t i = 45) (c5 : ¬ dgI (t i) = 0) (c6 : ng = 0) : tt t (i + 1) = (upd f w (f w * 10 + (t i - 48)), m, w, ng) := by unfold tt; rw [h, if_pos c, if_neg c2, if_neg c3, if_neg c4, if_neg c5, if_pos c6]
theorem tt_g (h : tt t i = (f, m, w, ng)) (c : ltI (t i) = 0) (c2 : ¬ t i = 33) (c3 : ¬ t i = 61) (c4 : ¬ t i = 45) (c5 : ¬ dgI (t i) = 0) (c6 : ¬ ng = 0) : tt t (i + 1) = (upd f w (f w * 10 + -(t i - 48)), m, w, ng) := by unfold tt; rw [h, if_pos c, if_neg c2, if_neg c3, if_neg c4, if_neg c5, if_neg c6]
end
theorem lt_in {x : Int32} (c : ¬ ltI x = 0) : 97 ≤ x.toInt ∧ x.toInt ≤ 104 := by
  unfold ltI at c
  split at c
  · exact absurd rfl c
  · rename_i h1
    split at c
    · exact absurd rfl c
    · rename_i h2
      have a := (toI_le 97 x).mp (Int32.not_lt.mp h1)
      have b := (toI_le x 104).mp (Int32.not_lt.mp h2)
      exact ⟨a, b⟩
theorem lt_nI {x : Int32} (c : ¬ ltI x = 0) : ∃ k, k < 8 ∧ x - 97 = nI k := by
  obtain ⟨a, b⟩ := lt_in c
  refine ⟨(x.toInt - 97).toNat, by omega, ?_⟩
  apply Int32.toInt_inj.mp
  rw [nI_toInt (by omega), Int32.toInt_sub]
  have e : (97 : Int32).toInt = 97 := rfl
  rw [e, Int.bmod_eq_of_le] <;> omega
theorem lt_sub {x : Int32} (c : ¬ ltI x = 0) : x - 97 = nI (x - 97).toNatClampNeg := by
  obtain ⟨k, hk, e⟩ := lt_nI c
  rw [e, nI_clamp (by omega)]
theorem lt_w {x : Int32} (c : ¬ ltI x = 0) : (x - 97).toNatClampNeg < 8 := by
  obtain ⟨k, hk, e⟩ := lt_nI c
  rw [e, nI_clamp (by omega)]; exact hk
theorem or_bit0 : ∀ w, w < 8 → ∀ m, m < 256 → (nI m ||| (1 <<< (nI w &&& 31))) = nI (m ||| 2 ^ w) := by decide +kernel
theorem or_bit {m w : Nat} (hm : m < 256) (hw : w < 8) : (nI m ||| (1 <<< (nI w &&& 31))) = nI (m ||| 2 ^ w) := or_bit0 w hw m hm
theorem or_lt {m w : Nat} (hm : m < 256) (hw : w < 8) : m ||| 2 ^ w < 256 := Nat.or_lt_two_pow (n := 8) hm (Nat.pow_lt_pow_right (by decide) (by omega))
/-! the ring of saved states -/
def pushI (I : Nat → Int32) (nx ct : Nat) : Nat → Int32 := upd (upd (tkI I (nx + 1) 0) 1 (nI ((nx + 1) % 6))) 2 (nI (min (ct + 1) 6))
def pushR (R : Nat → Nat → Int32) (nx : Nat) : Nat → Nat → Int32 := tkR R (nx + 1) 0
def popI (I : Nat → Int32) (nx ct : Nat) : Nat → Int32 := tkI (upd (upd I 1 (nI ((nx + 5) % 6))) 2 (nI (ct - 1))) 0 ((nx + 5) % 6 + 1)
def popR (R : Nat → Nat → Int32) (nx : Nat) : Nat → Nat → Int32 := tkR R 0 ((nx + 5) % 6 + 1)
theorem min6 {c : Nat} (h : c < 1000) : (if (6 : Int32) < nI c then (6 : Int32) else nI c) = nI (min c 6) := by
  by_cases h2 : 6 < c
  · have h3 : (6 : Int32) < nI c := (nI_ltI (a := 6) (b := c) (by omega) (by omega)).mpr h2
    rw [if_pos h3, Nat.min_eq_right (by omega)]; rfl
  · have h3 : ¬ (6 : Int32) < nI c := fun h3 => h2 ((nI_ltI (a := 6) (b := c) (by omega) (by omega)).mp h3)
    rw [if_neg h3, Nat.min_eq_left (by omega)]
theorem pushI_k {I : Nat → Int32} {nx ct k : Nat} (h : k = 0 ∨ k = 3 ∨ k = 4 ∨ k = 5) : pushI I nx ct k = I k := by
  simp only [pushI, tkI, upd]
  rw [if_neg (by omega), if_neg (by omega), if_neg (by omega), if_neg (by omega)]
theorem pushI_0 {I : Nat → Int32} {nx ct : Nat} : pushI I nx ct 0 = I 0 := pushI_k (by omega)
theorem pushI_3 {I : Nat → Int32} {nx ct : Nat} : pushI I nx ct 3 = I 3 := pushI_k (by omega)
theorem pushI_4 {I : Nat → Int32} {nx ct : Nat} : pushI I nx ct 4 = I 4 := pushI_k (by omega)
theorem pushI_5 {I : Nat → Int32} {nx ct : Nat} : pushI I nx ct 5 = I 5 := pushI_k (by omega)
theorem pushR_k {R : Nat → Nat → Int32} {nx k : Nat} (hn : nx < 6) (h : k = 0 ∨ k = 1 ∨ 14 ≤ k) : pushR R nx k = R k := by
  simp only [pushR, tkR, updR]
  rw [if_neg (by omega), if_neg (by omega)]
theorem xor_bit0 : ∀ w, w < 8 → ∀ m, m < 256 → (nI m ^^^ (1 <<< (nI w &&& 31))) = nI (m ^^^ 2 ^ w) := by decide +kernel
theorem xor_bit {m w : Nat} (hm : m < 256) (hw : w < 8) : (nI m ^^^ (1 <<< (nI w &&& 31))) = nI (m ^^^ 2 ^ w) := xor_bit0 w hw m hm
theorem xor_lt2 {m w : Nat} (hm : m < 256) (hw : w < 8) : m ^^^ 2 ^ w < 256 := Nat.xor_lt_two_pow (n := 8) hm (Nat.pow_lt_pow_right (by decide) (by omega))
/-- turned wheels -/
def tuF (a : Nat → Int32) (b k : Nat) : Int32 := if 0 ≤ wv k b then a k else -(a k)
def tuS (a : Nat → Int32) (b : Nat) : Nat → Int32
  | 0 => 0
  | i + 1 => if 0 ≤ wv i b then tuS a b i else if a i = 0 then tuS a b i else tuS a b i + 1
section
variable {a f : Nat → Int32} {b i : Nat} {x : Int32}
theorem st_up {g : Nat → Int32} (h : ∀ j, j < i → f j = g j) (e : f i = g i) : ∀ j, j < i + 1 → f j = g j := fun j hj => by
  rcases Nat.lt_or_ge j i with h1 | h1
  · exact h j h1
  · have e2 : j = i := by omega
    rw [e2]; exact e
theorem un_up {v : Int32} (h : ∀ j, i ≤ j → f j = a j) : ∀ j, i + 1 ≤ j → upd f i v j = a j := fun j hj => by
  unfold upd; rw [if_neg (by omega)]; exact h j (by omega)
theorem un_st (h : ∀ j, i ≤ j → f j = a j) : ∀ j, i + 1 ≤ j → f j = a j := fun j hj => h j (by omega)
theorem tu_a (h : f i = a i) (c : 0 ≤ wv i b) : f i = tuF a b i := by unfold tuF; rw [if_pos c]; exact h
theorem tu_b (h : f i = a i) (c : ¬ 0 ≤ wv i b) (z : f i = 0) : f i = tuF a b i := by unfold tuF; rw [if_neg c, ← h, z]; decide
theorem tu_c (h : f i = a i) (c : ¬ 0 ≤ wv i b) : -(f i) = tuF a b i := by unfold tuF; rw [if_neg c, h]
theorem ts_a {s : Int32} (h : s = tuS a b i) (c : 0 ≤ wv i b) : s = tuS a b (i + 1) := by unfold tuS; rw [if_pos c]; exact h
theorem ts_b {s : Int32} (h : s = tuS a b i) (h2 : f i = a i) (c : ¬ 0 ≤ wv i b) (z : f i = 0) : s = tuS a b (i + 1) := by unfold tuS; rw [if_neg c, if_pos (h2 ▸ z)]; exact h
theorem ts_c {s : Int32} (h : s = tuS a b i) (h2 : f i = a i) (c : ¬ 0 ≤ wv i b) (z : ¬ f i = 0) : s + 1 = tuS a b (i + 1) := by unfold tuS; rw [if_neg c, if_neg (h2 ▸ z), h]
end
/-- dropped wheels -/
def doF (a : Nat → Int32) (x : Int32) (k : Nat) : Int32 := if a k = 0 then a k else if x ≤ abI (a k) then a k else 0
def doS (a : Nat → Int32) (x : Int32) : Nat → Int32
  | 0 => 0
  | i + 1 => if a i = 0 then doS a x i else if x ≤ abI (a i) then doS a x i else doS a x i + 1
section
variable {a f : Nat → Int32} {i : Nat} {x s : Int32}
theorem do_a (h : f i = a i) (c : f i = 0) : f i = doF a x i := by unfold doF; rw [if_pos (h ▸ c)]; exact h
theorem do_b (h : f i = a i) (c : ¬ f i = 0) (z : x ≤ abI (f i)) : f i = doF a x i := by unfold doF; rw [if_neg (h ▸ c), if_pos (h ▸ z)]; exact h
theorem do_c (h : f i = a i) (c : ¬ f i = 0) (z : ¬ x ≤ abI (f i)) : 0 = doF a x i := by unfold doF; rw [if_neg (h ▸ c), if_neg (h ▸ z)]
theorem ds_a (hs : s = doS a x i) (h : f i = a i) (c : f i = 0) : s = doS a x (i + 1) := by unfold doS; rw [if_pos (h ▸ c)]; exact hs
theorem ds_b (hs : s = doS a x i) (h : f i = a i) (c : ¬ f i = 0) (z : x ≤ abI (f i)) : s = doS a x (i + 1) := by unfold doS; rw [if_neg (h ▸ c), if_pos (h ▸ z)]; exact hs
theorem ds_c (hs : s = doS a x i) (h : f i = a i) (c : ¬ f i = 0) (z : ¬ x ≤ abI (f i)) : s + 1 = doS a x (i + 1) := by unfold doS; rw [if_neg (h ▸ c), if_neg (h ▸ z), hs]
end
/-- a row that takes the numbers of g: how many differ -/
def cgS (q g : Nat → Int32) : Nat → Int32
  | 0 => 0
  | i + 1 => if q i = g i then cgS q g i else cgS q g i + 1
section
variable {q f g : Nat → Int32} {i : Nat} {s : Int32}
theorem cg_a (hs : s = cgS q g i) (h : f i = q i) (c : f i = g i) : s = cgS q g (i + 1) := by unfold cgS; rw [if_pos (h ▸ c)]; exact hs
theorem cg_c (hs : s = cgS q g i) (h : f i = q i) (c : ¬ f i = g i) : s + 1 = cgS q g (i + 1) := by unfold cgS; rw [if_neg (h ▸ c), hs]
theorem up_at (h : ∀ j, j < i → f j = g j) {v : Int32} (e : v = g i) : ∀ j, j < i + 1 → upd f i v j = g j := fun j hj => by
  unfold upd
  split
  · rename_i e2; rw [e2]; exact e
  · exact h j (by omega)
end
def clI (v : Int32) : Int32 := if (-99 : Int32) < (if v < 99 then v else 99) then (if v < 99 then v else 99) else -99
def fiF (q : Nat → Int32) (k : Nat) : Int32 := clI (psS q k 8 >>> (3 : Int32))
theorem out_q {q : Nat} (h : 33 ≤ q) (h2 : q ≤ 126) : outI (nI q) 33 126 = 0 := by
  have h1 : ¬ nI q < 33 := fun h3 => absurd ((nI_ltI (a := q) (b := 33) (by omega) (by omega)).mp h3) (by omega)
  have h2 : ¬ 126 < nI q := fun h3 => absurd ((nI_ltI (a := 126) (b := q) (by omega) (by omega)).mp h3) (by omega)
  unfold outI
  rw [if_neg h1, if_neg h2]
theorem i2c_q {q : Nat} (h : q < 65536) : (Int32.toUInt32 (nI q) % 65536).toInt32 = nI q := by
  rw [pk_char, pk_tn (by omega), Nat.mod_eq_of_lt h]
theorem bit_or2 : ∀ k, k < 2 → ∀ m, m < 4 → (nI m ||| (1 <<< (nI k &&& 31))) = nI (m ||| 2 ^ k) := by decide +kernel
theorem popI_2 {I : Nat → Int32} {nx ct : Nat} : popI I nx ct 2 = nI (ct - 1) := by
  simp only [popI, tkI, upd]
  rw [if_neg (by omega), if_neg (by omega)]; simp
/-! shares, hashes -/
def mxS (d : Nat → Int32) : Nat → Int32
  | 0 => 0
  | i + 1 => if mxS d i < d i * d i then d i * d i else mxS d i
def sqS (d : Nat → Int32) : Nat → Int32
  | 0 => 0
  | i + 1 => sqS d i + d i * d i
def msF (d : Nat → Int32) : UInt64 := if sqS d 8 = 0 then FP.dconst0 else FP.ddiv (FP.i2d (mxS d 8)) (FP.i2d (sqS d 8))
def NND : Prop := ∀ a b : Int32, ¬ b = 0 → vf_n64 (FP.ddiv (FP.i2d a) (FP.i2d b))
def dblS (x : UInt64) : Nat → UInt64
  | 0 => x
  | n + 1 => FP.dmul (dblS x n) 4611686018427387904
def exS : Nat → Int64
  | 0 => 1023
  | n + 1 => exS n - 1
def NNB (x : UInt64) : Prop := ∀ n, n ≤ 8 → vf_n64 (FP.dmul (dblS x n) 4611686018427387904) ∧ vf_n64 (FP.dmul (dblS x n) 4841369599423283200)
def bsN (x : UInt64) : Nat → Nat → Nat
  | 0, n => n
  | k + 1, n => if 0 ≤ Op.cmpValue (FP.dcmp (dblS x n) FP.dconst1) .g then n else bsN x k (n + 1)
theorem bs_t {x : UInt64} {n : Nat} (h : n < 8) (c : 0 ≤ Op.cmpValue (FP.dcmp (dblS x n) FP.dconst1) .g) : bsN x (8 - n) n = n := by
  rw [show 8 - n = (7 - n) + 1 by omega]; unfold bsN; rw [if_pos c]
theorem bs_f {x : UInt64} {n : Nat} (h : n < 8) (c : ¬ 0 ≤ Op.cmpValue (FP.dcmp (dblS x n) FP.dconst1) .g) : bsN x (8 - n) n = bsN x (8 - (n + 1)) (n + 1) := by
  rw [show 8 - n = (8 - (n + 1)) + 1 by omega]; conv => lhs; unfold bsN
  rw [if_neg c]
def bsV (x : UInt64) (n : Nat) : Int64 := exS n <<< (Int32.toInt64 52 &&& 63) + (FP.d2l (FP.dmul (dblS x n) 4841369599423283200) - 4503599627370496)
def bsF (x : UInt64) : Int64 := if 0 < Op.cmpValue (FP.dcmp x FP.dconst0) .g then bsV x (bsN x 8 0) else 0
def hs (h v : Int64) : Int64 := 31 * h + v
def hcS (cn : Nat → Int32) : Nat → Int64
  | 0 => 3733
  | w + 1 => hs (hcS cn w) (Int32.toInt64 (cn w))
/-- the numbers of f, below i, into the hash -/
def hfS (f : Nat → Int32) (h : Int64) : Nat → Int64
  | 0 => h
  | w + 1 => hs (hfS f h w) (Int32.toInt64 (f w))
def hwS (g : Nat → Nat → Int32) (h : Int64) : Nat → Int64
  | 0 => h
  | k + 1 => hfS (g k) (hwS g h k) 4
def hpS (d : Nat → Int32) (g : Nat → Nat → Int32) (h : Int64) : Nat → Int64
  | 0 => h
  | n + 1 => hfS (g n) (hs (hs (hpS d g h n) (Int32.toInt64 (trS d n 8))) (Int32.toInt64 (trS d n 8))) 3
def hkI (m : Nat) (h : Int64) : Nat → Int64
  | 0 => h
  | k + 1 => hs (hkI m h k) (if lbI m k = 0 then 0 else 1)
theorem hk_t {m k : Nat} {h0 hh : Int64} (h : hh = hkI m h0 k) (c : lbI m k = 0) : hs hh 0 = hkI m h0 (k + 1) := by
  show _ = hs (hkI m h0 k) (if lbI m k = 0 then 0 else 1)
  rw [if_pos c, h]
theorem hk_f {m k : Nat} {h0 hh : Int64} (h : hh = hkI m h0 k) (c : ¬ lbI m k = 0) : hs hh 1 = hkI m h0 (k + 1) := by
  show _ = hs (hkI m h0 k) (if lbI m k = 0 then 0 else 1)
  rw [if_neg c, h]
/-! the digest, step by step -/
def dgA (a q : Nat → Int32) (m : Nat) (fi sv : Int32) : Int64 := hcS (cnF a q m fi sv) 9
def dgB (a q : Nat → Int32) (m : Nat) (fi sv : Int32) : Int64 := hwS (wnF a q m) (dgA a q m fi sv) 8
def dgC (a q : Nat → Int32) (m : Nat) (fi sv : Int32) : Int64 := hpS (dr a m) (pnF q (dr a m)) (dgB a q m fi sv) 8
def dgD (a q : Nat → Int32) (m : Nat) (fi sv : Int32) : Int64 := hs (dgC a q m fi sv) (Int32.toInt64 (flF (diF q (dr a m))))
def dgE (a : Nat → Int32) (m : Nat) (x : Int32) (h : Int64) : Int64 := hs (hs h (Int32.toInt64 (feF (erF a m) x 0))) (Int32.toInt64 (feF (erF a m) x 1))
def dgG (a q : Nat → Int32) (m : Nat) (fi sv : Int32) : Int64 := dgE a m 100000 (dgE a m 1000 (dgE a m 0 (dgD a q m fi sv)))
def tuS5 (d : Nat → Int32) (n : Nat) : Int32 := trS d (n ^^^ 5) 8
def dgH (a q : Nat → Int32) (m : Nat) (fi sv : Int32) : Int64 := hfS (tuS5 (dr a m)) (dgG a q m fi sv) 8
def dgJ (a q : Nat → Int32) (m : Nat) (fi sv : Int32) : Int64 := hs (hs (dgH a q m fi sv) (Int32.toInt64 (nI (btS (fun b => dtS q (dr a m) b 8) 7)))) (bsF (msF (dr a m)))
def dgK (a q : Nat → Int32) (m : Nat) (fi sv : Int32) (ks len : Nat) : Int64 := hs (hkI ks (dgJ a q m fi sv) 2) (Int32.toInt64 (nI len))
def dgF (a q : Nat → Int32) (m : Nat) (fi sv : Int32) (ks len : Nat) (t : Nat → Int32) : Int64 := hfS t (dgK a q m fi sv ks len) len

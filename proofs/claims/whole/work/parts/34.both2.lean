/-! the digest's second half, given the fewest wheels and the bits of the share -/
section
variable {m : Nat} {z : Nat → Int32}
theorem rl_sq (h : RlW m z) : ∀ i, i ≤ 8 → sqS (dr z m) i = sqS (us z) i
  | 0, _ => rfl
  | i + 1, hi => by
    show sqS (dr z m) i + dr z m i * dr z m i = sqS (us z) i + us z i * us z i
    rw [rl_sq h i (by omega), rl_us h (by omega)]
theorem rl_mx (h : RlW m z) : ∀ i, i ≤ 8 → mxS (dr z m) i = mxS (us z) i
  | 0, _ => rfl
  | i + 1, hi => by
    show (if mxS (dr z m) i < dr z m i * dr z m i then dr z m i * dr z m i else mxS (dr z m) i) = if mxS (us z) i < us z i * us z i then us z i * us z i else mxS (us z) i
    rw [rl_mx h i (by omega), rl_us h (by omega)]
theorem rl_ms (h : RlW m z) : msF (dr z m) = msF (us z) := by unfold msF; rw [rl_sq h 8 (by decide), rl_mx h 8 (by decide)]
theorem rl_bt (h : RlW m z) (q : Nat → Int32) : (fun b => dtS q (dr z m) b 8) = fun b => dtS q (us z) b 8 := funext fun b => rl_dt h b 8
/-- the fewest wheels are the same, both ways of the class -/
def FeW (m : Nat) (z : Nat → Int32) : Prop := ∀ x : Int32, 0 ≤ x.toInt → x.toInt ≤ 9999999 → ∀ w, w < 2 → feF (erF z m) x w = nI (fmF z x)
theorem rl_dgE (hf : FeW m z) {x : Int32} (h1 : 0 ≤ x.toInt) (h2 : x.toInt ≤ 9999999) (h0 : Int64) : dgE z m x h0 = mdE z x h0 := by
  unfold dgE mdE
  rw [hf x h1 h2 0 (by decide), hf x h1 h2 1 (by decide)]
theorem rl_dgG (h : RlW m z) (hb : BdA z) (hf : FeW m z) (sv : Int32) : dgG z (qz z) m (z 24) sv = mdG z sv := by
  unfold dgG mdG
  rw [rl_dgD h hb, rl_dgE hf (x := 0) (by decide) (by decide), rl_dgE hf (x := 1000) (by decide) (by decide), rl_dgE hf (x := 100000) (by decide) (by decide)]
theorem rl_dgH (h : RlW m z) (hb : BdA z) (hf : FeW m z) (sv : Int32) : dgH z (qz z) m (z 24) sv = mdH z sv := by
  unfold dgH mdH
  rw [rl_dgG h hb hf, rl_tu5 h]
theorem rl_dgJ (h : RlW m z) (hb : BdA z) (hf : FeW m z) (hs9 : bsF (msF (us z)) = (msF (us z)).toInt64) (sv : Int32) : dgJ z (qz z) m (z 24) sv = mdJ z sv := by
  unfold dgJ mdJ mdI
  rw [rl_dgH h hb hf, rl_bt h, rl_ms h, hs9]
theorem rl_kq {ks : Nat} {k : Nat → Int32} (hk : ∀ j, j < 2 → k j = lbI ks j) (h0 : Int64) : hkI ks h0 2 = hs (hs h0 (kqL k 0)) (kqL k 1) := by
  show hs (hs h0 (if lbI ks 0 = 0 then 0 else 1)) (if lbI ks 1 = 0 then 0 else 1) = _
  unfold kqL
  rw [hk 0 (by decide), hk 1 (by decide)]
  rfl
theorem rl_dg (h : RlW m z) (hb : BdA z) (hf : FeW m z) (hs9 : bsF (msF (us z)) = (msF (us z)).toInt64) {ks : Nat} {k : Nat → Int32} (hk : ∀ j, j < 2 → k j = lbI ks j) (sv : Int32) (len : Nat) {t t2 : Nat → Int32} (ht : ∀ i, i < len → t i = t2 i) : dgF z (qz z) m (z 24) sv ks len t = mdF z sv k len t2 := by
  unfold dgF mdF dgK mdK
  rw [rl_dgJ h hb hf hs9, rl_kq hk]
  exact rl_hf ht
end

/-! one state, told by the class and by the reference: z: the reference's row of 25, m: the lost wheels as the class keeps them -/
def RlW (m : Nat) (z : Nat → Int32) : Prop := m < 256 ∧ ∀ k, k < 8 → z (8 + k) = lbI m k
section
variable {m : Nat} {z q : Nat → Int32}
theorem rl_us (h : RlW m z) {k : Nat} (hk : k < 8) : dr z m k = us z k := by
  unfold dr us
  rw [h.2 k hk]
  rcases lb_01 m k with e | e
  · rw [if_pos e, if_neg (by rw [e]; decide)]
  · rw [if_neg (by rw [e]; decide), if_pos e]
theorem rl_tr (h : RlW m z) (n : Nat) : trS (dr z m) n 8 = trS (us z) n 8 := trS_congr (fun _ hk => rl_us h hk)
theorem rl_gt (h : RlW m z) : ∀ i, gtS (dr z m) i = gtS (us z) i
  | 0 => rl_tr h 0
  | i + 1 => by
    show (if gtS (dr z m) i < trS (dr z m) (i + 1) 8 then trS (dr z m) (i + 1) 8 else gtS (dr z m) i) = if gtS (us z) i < trS (us z) (i + 1) 8 then trS (us z) (i + 1) 8 else gtS (us z) i
    rw [rl_gt h i, rl_tr h (i + 1)]
theorem rl_lt (h : RlW m z) : ∀ i, ltS (dr z m) i = ltS (us z) i
  | 0 => rl_tr h 0
  | i + 1 => by
    show (if trS (dr z m) (i + 1) 8 < ltS (dr z m) i then trS (dr z m) (i + 1) 8 else ltS (dr z m) i) = if trS (us z) (i + 1) 8 < ltS (us z) i then trS (us z) (i + 1) 8 else ltS (us z) i
    rw [rl_lt h i, rl_tr h (i + 1)]
theorem rl_di (h : RlW m z) : diF q (dr z m) = diF q (us z) := funext fun n => by unfold diF; rw [rl_tr h n]
theorem rl_ju (h : RlW m z) : juF (dr z m) = juF (us z) := funext fun n => by unfold juF; rw [rl_tr h n, rl_tr h]
theorem rl_pn (h : RlW m z) : pnF q (dr z m) = pnF q (us z) := funext fun n => funext fun w => by unfold pnF; rw [rl_di h, rl_ju h]
theorem rl_wn (h : RlW m z) {k : Nat} (hk : k < 8) (w : Nat) : wnF z (qz z) m k w = wnM z k w := by unfold wnF wnM; rw [h.2 k hk]
theorem rl_fl (h : RlW m z) : flF (diF q (dr z m)) = flF (diF q (us z)) := by rw [rl_di h]
theorem rl_dt (h : RlW m z) (b : Nat) : ∀ i, dtS q (dr z m) b i = dtS q (us z) b i
  | 0 => rfl
  | i + 1 => by
    show dtS q (dr z m) b i + abI (q i - trS (dr z m) (i ^^^ b) 8) = dtS q (us z) b i + abI (q i - trS (us z) (i ^^^ b) 8)
    rw [rl_dt h b i, rl_tr h]
theorem rl_tu5 (h : RlW m z) : tuS5 (dr z m) = tuS5 (us z) := funext fun n => rl_tr h _
theorem rl_hf {f g : Nat → Int32} {h0 : Int64} : ∀ {n : Nat}, (∀ i, i < n → f i = g i) → hfS f h0 n = hfS g h0 n
  | 0, _ => rfl
  | n + 1, h => by
    show hs (hfS f h0 n) _ = hs (hfS g h0 n) _
    rw [rl_hf (fun i hi => h i (Nat.lt_succ_of_lt hi)), h n (Nat.lt_succ_self n)]
theorem rl_hc {f g : Nat → Int32} : ∀ {n : Nat}, (∀ i, i < n → f i = g i) → hcS f n = hcS g n
  | 0, _ => rfl
  | n + 1, h => by
    show hs (hcS f n) _ = hs (hcS g n) _
    rw [rl_hc (fun i hi => h i (Nat.lt_succ_of_lt hi)), h n (Nat.lt_succ_self n)]
theorem rl_hp (h : RlW m z) {h0 : Int64} : ∀ n, hpS (dr z m) (pnF q (dr z m)) h0 n = hpS (us z) (pnF q (us z)) h0 n
  | 0 => rfl
  | n + 1 => by
    show hfS (pnF q (dr z m) n) (hs (hs (hpS (dr z m) (pnF q (dr z m)) h0 n) (Int32.toInt64 (trS (dr z m) n 8))) (Int32.toInt64 (trS (dr z m) n 8))) 3 = hfS (pnF q (us z) n) (hs (hs (hpS (us z) (pnF q (us z)) h0 n) (Int32.toInt64 (trS (us z) n 8))) (Int32.toInt64 (trS (us z) n 8))) 3
    rw [rl_hp h n, rl_tr h n, rl_pn h]
end

/-! what the writers leave of the pattern and of the fitted wheels' number -/
section
variable {m : Nat} {z : Nat → Int32}
theorem qz_up {k : Nat} {x : Int32} (hk : k < 16) : qz (upd z k x) = qz z := funext fun n => by unfold qz upd; rw [if_neg (by omega)]
theorem qz_pt {k : Nat} {x : Int32} : qz (upd z (16 + k) x) = upd (qz z) k x := funext fun n => by
  unfold qz upd
  by_cases c : n = k
  · rw [if_pos c, if_pos (by omega)]
  · rw [if_neg c, if_neg (by omega)]
theorem qz_tm {b : Nat} : qz (tmF z b) = qz z := funext fun n => by unfold qz tmF; rw [if_neg (by omega)]
theorem qz_dm {x : Int32} : qz (dmF z x) = qz z := funext fun n => by unfold qz dmF; rw [if_neg (by omega)]
theorem qz_fm : qz (fmM z) = qz z := funext fun n => by unfold qz fmM; rw [if_neg (by omega), if_neg (by omega)]
theorem qz_cp (h : RlW m z) {n : Nat} (hn : n < 8) : qz (cpM z) n = trS (dr z m) n 8 := by
  unfold qz cpM
  rw [if_neg (by omega), if_pos (by omega), show 16 + n - 16 = n by omega, rl_tr h]
theorem cg_congr {q q2 g g2 : Nat → Int32} : ∀ i, (∀ k, k < i → q k = q2 k) → (∀ k, k < i → g k = g2 k) → cgS q g i = cgS q2 g2 i
  | 0, _, _ => rfl
  | i + 1, h1, h2 => by
    show (if q i = g i then cgS q g i else cgS q g i + 1) = if q2 i = g2 i then cgS q2 g2 i else cgS q2 g2 i + 1
    rw [cg_congr i (fun k hk => h1 k (Nat.lt_succ_of_lt hk)) (fun k hk => h2 k (Nat.lt_succ_of_lt hk)), h1 i (Nat.lt_succ_self i), h2 i (Nat.lt_succ_self i)]
theorem rl_cg (h : RlW m z) {q : Nat → Int32} : cgS q (fun n => trS (dr z m) n 8) 8 = cgS q (cpT z) 8 := cg_congr 8 (fun _ _ => rfl) (fun k _ => rl_tr h k)
theorem z24_tm {b : Nat} : tmF z b 24 = z 24 := rfl
theorem z24_dm {x : Int32} : dmF z x 24 = z 24 := rfl
theorem z24_cp : cpM z 24 = z 24 := rfl
theorem z24_fm : fmM z 24 = z 24 := rfl
end

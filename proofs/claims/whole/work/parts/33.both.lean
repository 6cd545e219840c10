/-! counts and digest: the class's and the reference's are the same -/
section
variable {m : Nat} {z q : Nat → Int32}
theorem bd_us (h : BdA z) : BdA (us z) := fun k hk => by
  unfold us
  split
  · decide
  · exact h k hk
theorem rl_ovd (h : RlW m z) : ovF (dr z m) = ovF (us z) := by unfold ovF; rw [rl_gt h, rl_lt h, rl_us h (by decide)]
theorem rl_cn (h : RlW m z) (hb : BdA z) (sv : Int32) (w : Nat) : cnF z (qz z) m (z 24) sv w = cnM z sv w := by
  unfold cnF cnM
  rw [rl_bc h, rl_gt h, rl_lt h, rl_di h, rl_ju h, rl_ovd h, rl_ov (bd_us hb)]
theorem rl_hw {g : Nat → Nat → Int32} {h0 : Int64} : ∀ k, hwS g h0 k = hfS (fun i => g (i / 4) (i % 4)) h0 (4 * k)
  | 0 => rfl
  | k + 1 => by
    have e : hfS (fun i => g (i / 4) (i % 4)) h0 (4 * (k + 1)) = hs (hs (hs (hs (hfS (fun i => g (i / 4) (i % 4)) h0 (4 * k)) (Int32.toInt64 (g (4 * k / 4) (4 * k % 4)))) (Int32.toInt64 (g ((4 * k + 1) / 4) ((4 * k + 1) % 4)))) (Int32.toInt64 (g ((4 * k + 2) / 4) ((4 * k + 2) % 4)))) (Int32.toInt64 (g ((4 * k + 3) / 4) ((4 * k + 3) % 4))) := rfl
    rw [e, ← rl_hw k]
    rw [show 4 * k / 4 = k by omega, show 4 * k % 4 = 0 by omega, show (4 * k + 1) / 4 = k by omega, show (4 * k + 1) % 4 = 1 by omega, show (4 * k + 2) / 4 = k by omega, show (4 * k + 2) % 4 = 2 by omega, show (4 * k + 3) / 4 = k by omega, show (4 * k + 3) % 4 = 3 by omega]
    rfl
theorem rl_dgA (h : RlW m z) (hb : BdA z) (sv : Int32) : dgA z (qz z) m (z 24) sv = mdA z sv := rl_hc (fun w _ => rl_cn h hb sv w)
theorem rl_dgB (h : RlW m z) (hb : BdA z) (sv : Int32) : dgB z (qz z) m (z 24) sv = mdB z sv := by
  unfold dgB mdB
  rw [rl_dgA h hb, rl_hw]
  exact rl_hf (fun i hi => by unfold wn4; exact rl_wn h (by omega) _)
theorem rl_dgC (h : RlW m z) (hb : BdA z) (sv : Int32) : dgC z (qz z) m (z 24) sv = mdC z sv := by
  unfold dgC mdC
  rw [rl_dgB h hb, rl_hp h]
theorem rl_dgD (h : RlW m z) (hb : BdA z) (sv : Int32) : dgD z (qz z) m (z 24) sv = mdD z sv := by
  unfold dgD mdD
  rw [rl_dgC h hb, rl_di h]
end

/-! the class's greedy number is the reference's -/
section
variable {z : Nat → Int32}
theorem fb_z (hb : BdA z) {n : Nat} {o f : Nat → Int32} {al le : Int32} (h : SiW z o f) (h0 : zc o 8 = 0) : fbR n f al le = le := by
  cases n
  · rfl
  · unfold fbR
    have e := ml_li hb h 8 (Nat.le_refl 8)
    rcases hl : liS f 8 with _ | w
    · rfl
    · have hw := ml_lt (e.trans hl)
      have h1 := zc_up hw.2 hw.1
      omega
theorem fb_fm (hb : BdA z) : ∀ (n : Nat) (o f : Nat → Int32) (al : Int32) (my : Nat), SiW z o f → my = zc o 8 → 0 < my → my ≤ n → 0 ≤ al.toInt → al.toInt ≤ 9999999 → fbR n f al (nI my) = nI (fmR z n o al my)
  | 0, _, _, _, _, _, _, h1, h2, _, _ => by omega
  | n + 1, o, f, al, my, h, hm, h1, h2, a1, a2 => by
    have e := ml_li hb h 8 (Nat.le_refl 8)
    unfold fbR fmR
    rw [e]
    rcases hl : liS f 8 with _ | w
    · have := ml_no (e.trans hl); omega
    · have hw := ml_lt (e.trans hl)
      have hf := (h w hw.1).1 hw.2
      have b := hb w hw.1
      have hs2 := sq_I b.1 b.2
      have hq := sq_9801 b.1 b.2
      have hsub : (al - f w).toInt = al.toInt - (f w).toInt := by
        rw [hf.1, Int32.toInt_sub, hs2, Int.bmod_eq_of_le] <;> omega
      have e0 : (0 : Int32).toInt = 0 := rfl
      have hmy : nI my + -1 = nI (my - 1) := by
        have e3 := nI_add (my - 1) 1
        rw [show my - 1 + 1 = my by omega] at e3
        rw [← e3]
        have e4 : nI 1 = 1 := rfl
        rw [e4]; grind
      have hz := zc_up hw.2 hw.1
      show (if f w ≤ al then fbR n (upd f w 0) (al - f w) (nI my + -1) else nI my) = nI (if al - 8 * z w * z w < 0 then my else if my - 1 ≤ 0 then my - 1 else fmR z n (upd o w 1) (al - 8 * z w * z w) (my - 1))
      rw [← hf.1, hmy]
      by_cases c : f w ≤ al
      · have c' := Int32.le_iff_toInt_le.mp c
        rw [if_pos c, if_neg (fun e => by have := Int32.lt_iff_toInt_lt.mp e; omega)]
        by_cases c2 : my - 1 ≤ 0
        · rw [if_pos c2, fb_z hb (si_up h) (by omega)]
        · rw [if_neg c2]
          have hfw : 0 ≤ (f w).toInt := by rw [hf.1, hs2]; omega
          exact fb_fm hb n _ _ _ _ (si_up h) (by omega) (by omega) (by omega) (by omega) (by omega)
      · rw [if_neg c, if_pos (Int32.lt_iff_toInt_lt.mpr (by
          have : ¬ (f w).toInt ≤ al.toInt := fun e => c (Int32.le_iff_toInt_le.mpr e)
          omega))]
end

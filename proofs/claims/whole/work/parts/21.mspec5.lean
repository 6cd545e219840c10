/-! the reference's texts: one part of a text, read -/
def atF (t : Nat → Int32) (len i : Nat) : Int32 := if i < len then t i else 0
theorem at_t {t : Nat → Int32} {len i : Nat} (h : i < len) : t i = atF t len i := by unfold atF; rw [if_pos h]
theorem at_f {t : Nat → Int32} {len i : Nat} (h : len ≤ i) : 0 = atF t len i := by unfold atF; rw [if_neg (by omega)]
def sgF (n y : Int32) : Int32 := if n = 0 then y else -y
theorem sg0 (y : Int32) : sgF 0 y = y := if_pos rfl
theorem sg1 (y : Int32) : sgF 1 y = -y := if_neg (by decide)
def rpL (a : Nat → Int32) (i : Nat) : Int32 := if a (i + 1) = 33 then 1 else 0
def rpG (a : Nat → Int32) (n : Int32) (i : Nat) : Int32 × Int32 :=
  if inI (a i - 48) n 9 = 0 then (-1 - nI i, a i - 48)
  else if a i - 48 ≤ 0 then (nI (i + 1), sgF n (a i - 48))
  else if inI (a (i + 1)) 48 57 = 0 then (nI (i + 1), sgF n (a i - 48))
  else (nI (i + 2), sgF n (10 * (a i - 48) + a (i + 1) - 48))
def rpF (a : Nat → Int32) (x : Int32) (i : Nat) : Int32 × Int32 :=
  if inI (a i - 97) 0 7 = 0 then (-1 - nI i, x)
  else if a (i + 1) = 33 then (nI (i + 2), x)
  else if a (i + 1) = 61 then (if a (i + 2) = 45 then rpG a 1 (i + 3) else rpG a 0 (i + 2))
  else (-2 - nI i, x)
section
variable {a : Nat → Int32} {n x : Int32} {i : Nat}
theorem rpl_t (c : a (i + 1) = 33) : rpL a i = 1 := if_pos c
theorem rpl_f (c : ¬ a (i + 1) = 33) : rpL a i = 0 := if_neg c
theorem rg_a (c : inI (a i - 48) n 9 = 0) : rpG a n i = (-1 - nI i, a i - 48) := by unfold rpG; rw [if_pos c]
theorem rg_b (c : ¬ inI (a i - 48) n 9 = 0) (c2 : a i - 48 ≤ 0) : rpG a n i = (nI (i + 1), sgF n (a i - 48)) := by unfold rpG; rw [if_neg c, if_pos c2]
theorem rg_c (c : ¬ inI (a i - 48) n 9 = 0) (c2 : ¬ a i - 48 ≤ 0) (c3 : inI (a (i + 1)) 48 57 = 0) : rpG a n i = (nI (i + 1), sgF n (a i - 48)) := by unfold rpG; rw [if_neg c, if_neg c2, if_pos c3]
theorem rg_d (c : ¬ inI (a i - 48) n 9 = 0) (c2 : ¬ a i - 48 ≤ 0) (c3 : ¬ inI (a (i + 1)) 48 57 = 0) : rpG a n i = (nI (i + 2), sgF n (10 * (a i - 48) + a (i + 1) - 48)) := by unfold rpG; rw [if_neg c, if_neg c2, if_neg c3]
theorem rp_a (c : inI (a i - 97) 0 7 = 0) : rpF a x i = (-1 - nI i, x) := by unfold rpF; rw [if_pos c]
theorem rp_b (c : ¬ inI (a i - 97) 0 7 = 0) (c2 : a (i + 1) = 33) : rpF a x i = (nI (i + 2), x) := by unfold rpF; rw [if_neg c, if_pos c2]
theorem rp_c (c : ¬ inI (a i - 97) 0 7 = 0) (c2 : ¬ a (i + 1) = 33) (c3 : ¬ a (i + 1) = 61) : rpF a x i = (-2 - nI i, x) := by unfold rpF; rw [if_neg c, if_neg c2, if_neg c3]
theorem rp_d (c : ¬ inI (a i - 97) 0 7 = 0) (c2 : ¬ a (i + 1) = 33) (c3 : a (i + 1) = 61) (c4 : a (i + 2) = 45) : rpF a x i = rpG a 1 (i + 3) := by unfold rpF; rw [if_neg c, if_neg c2, if_pos c3, if_pos c4]
theorem rp_e (c : ¬ inI (a i - 97) 0 7 = 0) (c2 : ¬ a (i + 1) = 33) (c3 : a (i + 1) = 61) (c4 : ¬ a (i + 2) = 45) : rpF a x i = rpG a 0 (i + 2) := by unfold rpF; rw [if_neg c, if_neg c2, if_pos c3, if_neg c4]
end
theorem upd534 {I : Nat → Int32} {w b : Int32} : upd (upd I 3 w) 5 b = upd (upd (upd I 3 w) 5 b) 4 (I 4) := funext fun j => by
  unfold upd
  split
  · rename_i h; subst h; rfl
  · split
    · rename_i h; subst h; rfl
    · split
      · rename_i h; subst h; rfl
      · rfl
section
variable {D : va_G} {T : Nat → ClassId} {ad : Nat → Nat} {I : Nat → Int32} {R : Nat → Nat → Int32} {w b : Int32} {H : Heap}
theorem m_534 (h : va_P D vwCl (mw T ad (upd (upd I 3 w) 5 b) R) H) : va_P D vwCl (mw T ad (upd (upd (upd I 3 w) 5 b) 4 (I 4)) R) H := by rw [← upd534]; exact h
end

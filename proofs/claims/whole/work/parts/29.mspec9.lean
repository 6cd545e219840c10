/-! the reference's digest, step by step -/
def wn4 (z : Nat → Int32) (i : Nat) : Int32 := wnM z (i / 4) (i % 4)
def kqL (k : Nat → Int32) (j : Nat) : Int64 := if k j = 0 then Int32.toInt64 0 else Int32.toInt64 1
theorem kq_t {k : Nat → Int32} {j : Nat} (c : k j = 0) : Int32.toInt64 0 = kqL k j := by unfold kqL; rw [if_pos c]
theorem kq_f {k : Nat → Int32} {j : Nat} (c : ¬ k j = 0) : Int32.toInt64 1 = kqL k j := by unfold kqL; rw [if_neg c]
def mdA (z : Nat → Int32) (sv : Int32) : Int64 := hcS (cnM z sv) 9
def mdB (z : Nat → Int32) (sv : Int32) : Int64 := hfS (wn4 z) (mdA z sv) 32
def mdC (z : Nat → Int32) (sv : Int32) : Int64 := hpS (us z) (pnF (qz z) (us z)) (mdB z sv) 8
def mdD (z : Nat → Int32) (sv : Int32) : Int64 := hs (mdC z sv) (Int32.toInt64 (flF (diF (qz z) (us z))))
def mdE (z : Nat → Int32) (x : Int32) (h : Int64) : Int64 := hs (hs h (Int32.toInt64 (nI (fmF z x)))) (Int32.toInt64 (nI (fmF z x)))
def mdG (z : Nat → Int32) (sv : Int32) : Int64 := mdE z 100000 (mdE z 1000 (mdE z 0 (mdD z sv)))
def mdH (z : Nat → Int32) (sv : Int32) : Int64 := hfS (tuS5 (us z)) (mdG z sv) 8
def mdI (z : Nat → Int32) (sv : Int32) : Int64 := hs (mdH z sv) (Int32.toInt64 (nI (btS (fun b => dtS (qz z) (us z) b 8) 7)))
def mdJ (z : Nat → Int32) (sv : Int32) : Int64 := hs (mdI z sv) (msF (us z)).toInt64
def mdK (z : Nat → Int32) (sv : Int32) (k : Nat → Int32) (len : Nat) : Int64 := hs (hs (hs (mdJ z sv) (kqL k 0)) (kqL k 1)) (Int32.toInt64 (nI len))
def mdF (z : Nat → Int32) (sv : Int32) (k : Nat → Int32) (len : Nat) (t : Nat → Int32) : Int64 := hfS t (mdK z sv k len) len

/-! whether a double is no number, as the class library tells it -/
def nnI (x : UInt64) : Int32 := if Op.cmpValue (FP.dcmp x x) .l = 0 then 0 else 1
theorem nn_a {x : UInt64} (c : Op.cmpValue (FP.dcmp x x) .l = 0) : 0 = nnI x := by unfold nnI; rw [if_pos c]
theorem nn_b {x : UInt64} (c : ¬ Op.cmpValue (FP.dcmp x x) .l = 0) : 1 = nnI x := by unfold nnI; rw [if_neg c]

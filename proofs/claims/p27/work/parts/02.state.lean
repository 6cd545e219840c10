/-! the worlds: ad: the addresses, T: the array classes, I: the whole numbers of the objects, R: what the arrays hold -/
abbrev tysT (T : Nat → ClassId) : List (ClassId × FieldType) := [(T 0, .char), (T 1, .int), (T 2, .char), (T 3, .object RX0)]
def updR (R : Nat → Nat → Int32) (k : Nat) (f : Nat → Int32) : Nat → Nat → Int32 := fun j => if j = k then f else R j
theorem updR_self {R : Nat → Nat → Int32} {k : Nat} : updR R k (R k) = R := funext fun j => by
  unfold updR
  split
  · rename_i h; rw [h]
  · rfl
theorem updR_upd {R : Nat → Nat → Int32} {k : Nat} {f g : Nat → Int32} : updR (updR R k f) k g = updR R k g := funext fun j => by
  unfold updR
  split <;> rfl
theorem upd_self {I : Nat → Int32} {k : Nat} : upd I k (I k) = I := funext fun j => by
  unfold upd
  split
  · rename_i h; rw [h]
  · rfl
theorem upd_upd {I : Nat → Int32} {k : Nat} {x y : Int32} : upd (upd I k x) k y = upd I k y := funext fun j => by
  unfold upd
  split <;> rfl

def cw (T : Nat → ClassId) (ad : Nat → Nat) (I : Nat → Int32) (R : Nat → Nat → Int32) : va_W := [(ad 0, .inr (3, [.ref (ad 1), .ref (ad 4), .int (I 0), .ref (ad 5), .ref (ad 7), .ref (ad 9)])), (ad 1, .inr (0, [.ref (ad 2), .ref (ad 3), .int (I 4), .int (I 5)])), (ad 2, .inl (T 1, 8, .inl (R 0))), (ad 3, .inl (T 1, 8, .inl (R 1))), (ad 4, .inl (T 3, 2, .inr (.inr (.inr (.inr (fun j => some (ad (28 + 3 * j)))))))), (ad 5, .inr (1, [.ref (ad 6), .int (I 1), .int (I 2)])), (ad 6, .inl (T 3, 6, .inr (.inr (.inr (.inr (fun j => some (ad (10 + 3 * j)))))))), (ad 7, .inr (2, [.ref (ad 8), .int (I 3)])), (ad 8, .inl (T 0, 60, .inl (R 18))), (ad 9, .inl (T 1, 8, .inl (R 19))), (ad 10, .inr (0, [.ref (ad 11), .ref (ad 12), .int (I 6), .int (I 7)])), (ad 11, .inl (T 1, 8, .inl (R 2))), (ad 12, .inl (T 1, 8, .inl (R 3))), (ad 13, .inr (0, [.ref (ad 14), .ref (ad 15), .int (I 8), .int (I 9)])), (ad 14, .inl (T 1, 8, .inl (R 4))), (ad 15, .inl (T 1, 8, .inl (R 5))), (ad 16, .inr (0, [.ref (ad 17), .ref (ad 18), .int (I 10), .int (I 11)])), (ad 17, .inl (T 1, 8, .inl (R 6))), (ad 18, .inl (T 1, 8, .inl (R 7))), (ad 19, .inr (0, [.ref (ad 20), .ref (ad 21), .int (I 12), .int (I 13)])), (ad 20, .inl (T 1, 8, .inl (R 8))), (ad 21, .inl (T 1, 8, .inl (R 9))), (ad 22, .inr (0, [.ref (ad 23), .ref (ad 24), .int (I 14), .int (I 15)])), (ad 23, .inl (T 1, 8, .inl (R 10))), (ad 24, .inl (T 1, 8, .inl (R 11))), (ad 25, .inr (0, [.ref (ad 26), .ref (ad 27), .int (I 16), .int (I 17)])), (ad 26, .inl (T 1, 8, .inl (R 12))), (ad 27, .inl (T 1, 8, .inl (R 13))), (ad 28, .inr (0, [.ref (ad 29), .ref (ad 30), .int (I 18), .int (I 19)])), (ad 29, .inl (T 1, 8, .inl (R 14))), (ad 30, .inl (T 1, 8, .inl (R 15))), (ad 31, .inr (0, [.ref (ad 32), .ref (ad 33), .int (I 20), .int (I 21)])), (ad 32, .inl (T 1, 8, .inl (R 16))), (ad 33, .inl (T 1, 8, .inl (R 17)))]
section
variable {T : Nat → ClassId} {ad : Nat → Nat} {I : Nat → Int32} {R : Nat → Nat → Int32}
theorem cw_0 : (cw T ad I R)[0]? = some (ad 0, .inr (3, [.ref (ad 1), .ref (ad 4), .int (I 0), .ref (ad 5), .ref (ad 7), .ref (ad 9)])) := rfl
theorem cw_1 : (cw T ad I R)[1]? = some (ad 1, .inr (0, [.ref (ad 2), .ref (ad 3), .int (I 4), .int (I 5)])) := rfl
theorem cw_2 : (cw T ad I R)[2]? = some (ad 2, .inl (T 1, 8, .inl (R 0))) := rfl
theorem cw_3 : (cw T ad I R)[3]? = some (ad 3, .inl (T 1, 8, .inl (R 1))) := rfl
theorem cw_4 : (cw T ad I R)[4]? = some (ad 4, .inl (T 3, 2, .inr (.inr (.inr (.inr (fun j => some (ad (28 + 3 * j)))))))) := rfl
theorem cw_5 : (cw T ad I R)[5]? = some (ad 5, .inr (1, [.ref (ad 6), .int (I 1), .int (I 2)])) := rfl
theorem cw_6 : (cw T ad I R)[6]? = some (ad 6, .inl (T 3, 6, .inr (.inr (.inr (.inr (fun j => some (ad (10 + 3 * j)))))))) := rfl
theorem cw_7 : (cw T ad I R)[7]? = some (ad 7, .inr (2, [.ref (ad 8), .int (I 3)])) := rfl
theorem cw_8 : (cw T ad I R)[8]? = some (ad 8, .inl (T 0, 60, .inl (R 18))) := rfl
theorem cw_9 : (cw T ad I R)[9]? = some (ad 9, .inl (T 1, 8, .inl (R 19))) := rfl
theorem cw_10 : (cw T ad I R)[10]? = some (ad 10, .inr (0, [.ref (ad 11), .ref (ad 12), .int (I 6), .int (I 7)])) := rfl
theorem cw_11 : (cw T ad I R)[11]? = some (ad 11, .inl (T 1, 8, .inl (R 2))) := rfl
theorem cw_12 : (cw T ad I R)[12]? = some (ad 12, .inl (T 1, 8, .inl (R 3))) := rfl
theorem cw_13 : (cw T ad I R)[13]? = some (ad 13, .inr (0, [.ref (ad 14), .ref (ad 15), .int (I 8), .int (I 9)])) := rfl
theorem cw_14 : (cw T ad I R)[14]? = some (ad 14, .inl (T 1, 8, .inl (R 4))) := rfl
theorem cw_15 : (cw T ad I R)[15]? = some (ad 15, .inl (T 1, 8, .inl (R 5))) := rfl
theorem cw_16 : (cw T ad I R)[16]? = some (ad 16, .inr (0, [.ref (ad 17), .ref (ad 18), .int (I 10), .int (I 11)])) := rfl
theorem cw_17 : (cw T ad I R)[17]? = some (ad 17, .inl (T 1, 8, .inl (R 6))) := rfl
theorem cw_18 : (cw T ad I R)[18]? = some (ad 18, .inl (T 1, 8, .inl (R 7))) := rfl
theorem cw_19 : (cw T ad I R)[19]? = some (ad 19, .inr (0, [.ref (ad 20), .ref (ad 21), .int (I 12), .int (I 13)])) := rfl
theorem cw_20 : (cw T ad I R)[20]? = some (ad 20, .inl (T 1, 8, .inl (R 8))) := rfl
theorem cw_21 : (cw T ad I R)[21]? = some (ad 21, .inl (T 1, 8, .inl (R 9))) := rfl
theorem cw_22 : (cw T ad I R)[22]? = some (ad 22, .inr (0, [.ref (ad 23), .ref (ad 24), .int (I 14), .int (I 15)])) := rfl
theorem cw_23 : (cw T ad I R)[23]? = some (ad 23, .inl (T 1, 8, .inl (R 10))) := rfl
theorem cw_24 : (cw T ad I R)[24]? = some (ad 24, .inl (T 1, 8, .inl (R 11))) := rfl
theorem cw_25 : (cw T ad I R)[25]? = some (ad 25, .inr (0, [.ref (ad 26), .ref (ad 27), .int (I 16), .int (I 17)])) := rfl
theorem cw_26 : (cw T ad I R)[26]? = some (ad 26, .inl (T 1, 8, .inl (R 12))) := rfl
theorem cw_27 : (cw T ad I R)[27]? = some (ad 27, .inl (T 1, 8, .inl (R 13))) := rfl
theorem cw_28 : (cw T ad I R)[28]? = some (ad 28, .inr (0, [.ref (ad 29), .ref (ad 30), .int (I 18), .int (I 19)])) := rfl
theorem cw_29 : (cw T ad I R)[29]? = some (ad 29, .inl (T 1, 8, .inl (R 14))) := rfl
theorem cw_30 : (cw T ad I R)[30]? = some (ad 30, .inl (T 1, 8, .inl (R 15))) := rfl
theorem cw_31 : (cw T ad I R)[31]? = some (ad 31, .inr (0, [.ref (ad 32), .ref (ad 33), .int (I 20), .int (I 21)])) := rfl
theorem cw_32 : (cw T ad I R)[32]? = some (ad 32, .inl (T 1, 8, .inl (R 16))) := rfl
theorem cw_33 : (cw T ad I R)[33]? = some (ad 33, .inl (T 1, 8, .inl (R 17))) := rfl
theorem cw_I0 {v : Int32} : (cw T ad I R).set 0 (ad 0, .inr (3, [.ref (ad 1), .ref (ad 4), .int v, .ref (ad 5), .ref (ad 7), .ref (ad 9)])) = cw T ad (upd I 0 v) R := rfl
theorem cw_I4 {v : Int32} : (cw T ad I R).set 1 (ad 1, .inr (0, [.ref (ad 2), .ref (ad 3), .int v, .int (I 5)])) = cw T ad (upd I 4 v) R := rfl
theorem cw_I5 {v : Int32} : (cw T ad I R).set 1 (ad 1, .inr (0, [.ref (ad 2), .ref (ad 3), .int (I 4), .int v])) = cw T ad (upd I 5 v) R := rfl
theorem cw_R0 {f : Nat → Int32} : (cw T ad I R).set 2 (ad 2, .inl (T 1, 8, .inl f)) = cw T ad I (updR R 0 f) := rfl
theorem cw_R1 {f : Nat → Int32} : (cw T ad I R).set 3 (ad 3, .inl (T 1, 8, .inl f)) = cw T ad I (updR R 1 f) := rfl
theorem cw_I1 {v : Int32} : (cw T ad I R).set 5 (ad 5, .inr (1, [.ref (ad 6), .int v, .int (I 2)])) = cw T ad (upd I 1 v) R := rfl
theorem cw_I2 {v : Int32} : (cw T ad I R).set 5 (ad 5, .inr (1, [.ref (ad 6), .int (I 1), .int v])) = cw T ad (upd I 2 v) R := rfl
theorem cw_I3 {v : Int32} : (cw T ad I R).set 7 (ad 7, .inr (2, [.ref (ad 8), .int v])) = cw T ad (upd I 3 v) R := rfl
theorem cw_R18 {f : Nat → Int32} : (cw T ad I R).set 8 (ad 8, .inl (T 0, 60, .inl f)) = cw T ad I (updR R 18 f) := rfl
theorem cw_R19 {f : Nat → Int32} : (cw T ad I R).set 9 (ad 9, .inl (T 1, 8, .inl f)) = cw T ad I (updR R 19 f) := rfl
theorem cw_I6 {v : Int32} : (cw T ad I R).set 10 (ad 10, .inr (0, [.ref (ad 11), .ref (ad 12), .int v, .int (I 7)])) = cw T ad (upd I 6 v) R := rfl
theorem cw_I7 {v : Int32} : (cw T ad I R).set 10 (ad 10, .inr (0, [.ref (ad 11), .ref (ad 12), .int (I 6), .int v])) = cw T ad (upd I 7 v) R := rfl
theorem cw_R2 {f : Nat → Int32} : (cw T ad I R).set 11 (ad 11, .inl (T 1, 8, .inl f)) = cw T ad I (updR R 2 f) := rfl
theorem cw_R3 {f : Nat → Int32} : (cw T ad I R).set 12 (ad 12, .inl (T 1, 8, .inl f)) = cw T ad I (updR R 3 f) := rfl
theorem cw_I8 {v : Int32} : (cw T ad I R).set 13 (ad 13, .inr (0, [.ref (ad 14), .ref (ad 15), .int v, .int (I 9)])) = cw T ad (upd I 8 v) R := rfl
theorem cw_I9 {v : Int32} : (cw T ad I R).set 13 (ad 13, .inr (0, [.ref (ad 14), .ref (ad 15), .int (I 8), .int v])) = cw T ad (upd I 9 v) R := rfl
theorem cw_R4 {f : Nat → Int32} : (cw T ad I R).set 14 (ad 14, .inl (T 1, 8, .inl f)) = cw T ad I (updR R 4 f) := rfl
theorem cw_R5 {f : Nat → Int32} : (cw T ad I R).set 15 (ad 15, .inl (T 1, 8, .inl f)) = cw T ad I (updR R 5 f) := rfl
theorem cw_I10 {v : Int32} : (cw T ad I R).set 16 (ad 16, .inr (0, [.ref (ad 17), .ref (ad 18), .int v, .int (I 11)])) = cw T ad (upd I 10 v) R := rfl
theorem cw_I11 {v : Int32} : (cw T ad I R).set 16 (ad 16, .inr (0, [.ref (ad 17), .ref (ad 18), .int (I 10), .int v])) = cw T ad (upd I 11 v) R := rfl
theorem cw_R6 {f : Nat → Int32} : (cw T ad I R).set 17 (ad 17, .inl (T 1, 8, .inl f)) = cw T ad I (updR R 6 f) := rfl
theorem cw_R7 {f : Nat → Int32} : (cw T ad I R).set 18 (ad 18, .inl (T 1, 8, .inl f)) = cw T ad I (updR R 7 f) := rfl
theorem cw_I12 {v : Int32} : (cw T ad I R).set 19 (ad 19, .inr (0, [.ref (ad 20), .ref (ad 21), .int v, .int (I 13)])) = cw T ad (upd I 12 v) R := rfl
theorem cw_I13 {v : Int32} : (cw T ad I R).set 19 (ad 19, .inr (0, [.ref (ad 20), .ref (ad 21), .int (I 12), .int v])) = cw T ad (upd I 13 v) R := rfl
theorem cw_R8 {f : Nat → Int32} : (cw T ad I R).set 20 (ad 20, .inl (T 1, 8, .inl f)) = cw T ad I (updR R 8 f) := rfl
theorem cw_R9 {f : Nat → Int32} : (cw T ad I R).set 21 (ad 21, .inl (T 1, 8, .inl f)) = cw T ad I (updR R 9 f) := rfl
theorem cw_I14 {v : Int32} : (cw T ad I R).set 22 (ad 22, .inr (0, [.ref (ad 23), .ref (ad 24), .int v, .int (I 15)])) = cw T ad (upd I 14 v) R := rfl
theorem cw_I15 {v : Int32} : (cw T ad I R).set 22 (ad 22, .inr (0, [.ref (ad 23), .ref (ad 24), .int (I 14), .int v])) = cw T ad (upd I 15 v) R := rfl
theorem cw_R10 {f : Nat → Int32} : (cw T ad I R).set 23 (ad 23, .inl (T 1, 8, .inl f)) = cw T ad I (updR R 10 f) := rfl
theorem cw_R11 {f : Nat → Int32} : (cw T ad I R).set 24 (ad 24, .inl (T 1, 8, .inl f)) = cw T ad I (updR R 11 f) := rfl
theorem cw_I16 {v : Int32} : (cw T ad I R).set 25 (ad 25, .inr (0, [.ref (ad 26), .ref (ad 27), .int v, .int (I 17)])) = cw T ad (upd I 16 v) R := rfl
theorem cw_I17 {v : Int32} : (cw T ad I R).set 25 (ad 25, .inr (0, [.ref (ad 26), .ref (ad 27), .int (I 16), .int v])) = cw T ad (upd I 17 v) R := rfl
theorem cw_R12 {f : Nat → Int32} : (cw T ad I R).set 26 (ad 26, .inl (T 1, 8, .inl f)) = cw T ad I (updR R 12 f) := rfl
theorem cw_R13 {f : Nat → Int32} : (cw T ad I R).set 27 (ad 27, .inl (T 1, 8, .inl f)) = cw T ad I (updR R 13 f) := rfl
theorem cw_I18 {v : Int32} : (cw T ad I R).set 28 (ad 28, .inr (0, [.ref (ad 29), .ref (ad 30), .int v, .int (I 19)])) = cw T ad (upd I 18 v) R := rfl
theorem cw_I19 {v : Int32} : (cw T ad I R).set 28 (ad 28, .inr (0, [.ref (ad 29), .ref (ad 30), .int (I 18), .int v])) = cw T ad (upd I 19 v) R := rfl
theorem cw_R14 {f : Nat → Int32} : (cw T ad I R).set 29 (ad 29, .inl (T 1, 8, .inl f)) = cw T ad I (updR R 14 f) := rfl
theorem cw_R15 {f : Nat → Int32} : (cw T ad I R).set 30 (ad 30, .inl (T 1, 8, .inl f)) = cw T ad I (updR R 15 f) := rfl
theorem cw_I20 {v : Int32} : (cw T ad I R).set 31 (ad 31, .inr (0, [.ref (ad 32), .ref (ad 33), .int v, .int (I 21)])) = cw T ad (upd I 20 v) R := rfl
theorem cw_I21 {v : Int32} : (cw T ad I R).set 31 (ad 31, .inr (0, [.ref (ad 32), .ref (ad 33), .int (I 20), .int v])) = cw T ad (upd I 21 v) R := rfl
theorem cw_R16 {f : Nat → Int32} : (cw T ad I R).set 32 (ad 32, .inl (T 1, 8, .inl f)) = cw T ad I (updR R 16 f) := rfl
theorem cw_R17 {f : Nat → Int32} : (cw T ad I R).set 33 (ad 33, .inl (T 1, 8, .inl f)) = cw T ad I (updR R 17 f) := rfl
theorem cw_len : (cw T ad I R).length = 34 := rfl
theorem cw_fst : (cw T ad I R).map Prod.fst = (List.range 34).map ad := rfl
theorem cw_ad {k : Nat} {q : Nat × va_E} (h : (cw T ad I R)[k]? = some q) : k < 34 ∧ q.1 = ad k := by
  have h1 : ((cw T ad I R).map Prod.fst)[k]? = some q.1 := by rw [List.getElem?_map, h]; rfl
  rw [cw_fst, List.getElem?_map] at h1
  rcases Nat.lt_or_ge k 34 with hk | hk
  · rw [List.getElem?_range hk] at h1
    exact ⟨hk, (Option.some.inj h1).symm⟩
  · rw [List.getElem?_eq_none (by simpa using hk)] at h1
    cases h1
end
def gw (T : Nat → ClassId) (ad : Nat → Nat) (I : Nat → Int32) (R : Nat → Nat → Int32) : va_W := [(ad 0, .inr (0, [.ref (ad 1), .ref (ad 2), .int (I 0), .int (I 1)])), (ad 1, .inl (T 1, 8, .inl (R 0))), (ad 2, .inl (T 1, 8, .inl (R 1))), (ad 3, .inr (0, [.ref (ad 4), .ref (ad 5), .int (I 2), .int (I 3)])), (ad 4, .inl (T 1, 8, .inl (R 2))), (ad 5, .inl (T 1, 8, .inl (R 3)))]
section
variable {T : Nat → ClassId} {ad : Nat → Nat} {I : Nat → Int32} {R : Nat → Nat → Int32}
theorem gw_0 : (gw T ad I R)[0]? = some (ad 0, .inr (0, [.ref (ad 1), .ref (ad 2), .int (I 0), .int (I 1)])) := rfl
theorem gw_1 : (gw T ad I R)[1]? = some (ad 1, .inl (T 1, 8, .inl (R 0))) := rfl
theorem gw_2 : (gw T ad I R)[2]? = some (ad 2, .inl (T 1, 8, .inl (R 1))) := rfl
theorem gw_3 : (gw T ad I R)[3]? = some (ad 3, .inr (0, [.ref (ad 4), .ref (ad 5), .int (I 2), .int (I 3)])) := rfl
theorem gw_4 : (gw T ad I R)[4]? = some (ad 4, .inl (T 1, 8, .inl (R 2))) := rfl
theorem gw_5 : (gw T ad I R)[5]? = some (ad 5, .inl (T 1, 8, .inl (R 3))) := rfl
theorem gw_I0 {v : Int32} : (gw T ad I R).set 0 (ad 0, .inr (0, [.ref (ad 1), .ref (ad 2), .int v, .int (I 1)])) = gw T ad (upd I 0 v) R := rfl
theorem gw_I1 {v : Int32} : (gw T ad I R).set 0 (ad 0, .inr (0, [.ref (ad 1), .ref (ad 2), .int (I 0), .int v])) = gw T ad (upd I 1 v) R := rfl
theorem gw_R0 {f : Nat → Int32} : (gw T ad I R).set 1 (ad 1, .inl (T 1, 8, .inl f)) = gw T ad I (updR R 0 f) := rfl
theorem gw_R1 {f : Nat → Int32} : (gw T ad I R).set 2 (ad 2, .inl (T 1, 8, .inl f)) = gw T ad I (updR R 1 f) := rfl
theorem gw_I2 {v : Int32} : (gw T ad I R).set 3 (ad 3, .inr (0, [.ref (ad 4), .ref (ad 5), .int v, .int (I 3)])) = gw T ad (upd I 2 v) R := rfl
theorem gw_I3 {v : Int32} : (gw T ad I R).set 3 (ad 3, .inr (0, [.ref (ad 4), .ref (ad 5), .int (I 2), .int v])) = gw T ad (upd I 3 v) R := rfl
theorem gw_R2 {f : Nat → Int32} : (gw T ad I R).set 4 (ad 4, .inl (T 1, 8, .inl f)) = gw T ad I (updR R 2 f) := rfl
theorem gw_R3 {f : Nat → Int32} : (gw T ad I R).set 5 (ad 5, .inl (T 1, 8, .inl f)) = gw T ad I (updR R 3 f) := rfl
theorem gw_len : (gw T ad I R).length = 6 := rfl
theorem gw_fst : (gw T ad I R).map Prod.fst = (List.range 6).map ad := rfl
theorem gw_ad {k : Nat} {q : Nat × va_E} (h : (gw T ad I R)[k]? = some q) : k < 6 ∧ q.1 = ad k := by
  have h1 : ((gw T ad I R).map Prod.fst)[k]? = some q.1 := by rw [List.getElem?_map, h]; rfl
  rw [gw_fst, List.getElem?_map] at h1
  rcases Nat.lt_or_ge k 6 with hk | hk
  · rw [List.getElem?_range hk] at h1
    exact ⟨hk, (Option.some.inj h1).symm⟩
  · rw [List.getElem?_eq_none (by simpa using hk)] at h1
    cases h1
end
def pw (T : Nat → ClassId) (ad : Nat → Nat) (I : Nat → Int32) (R : Nat → Nat → Int32) : va_W := [(ad 0, .inr (3, [.ref (ad 1), .ref (ad 4), .int (I 0), .ref (ad 5), .ref (ad 7), .ref (ad 9)])), (ad 1, .inr (0, [.ref (ad 2), .ref (ad 3), .int (I 4), .int (I 5)])), (ad 2, .inl (T 1, 8, .inl (R 0))), (ad 3, .inl (T 1, 8, .inl (R 1))), (ad 4, .inl (T 3, 2, .inr (.inr (.inr (.inr (fun j => some (ad (28 + 3 * j)))))))), (ad 5, .inr (1, [.ref (ad 6), .int (I 1), .int (I 2)])), (ad 6, .inl (T 3, 6, .inr (.inr (.inr (.inr (fun j => some (ad (10 + 3 * j)))))))), (ad 7, .inr (2, [.ref (ad 8), .int (I 3)])), (ad 8, .inl (T 0, 60, .inl (R 18))), (ad 9, .inl (T 1, 8, .inl (R 19))), (ad 10, .inr (0, [.ref (ad 11), .ref (ad 12), .int (I 6), .int (I 7)])), (ad 11, .inl (T 1, 8, .inl (R 2))), (ad 12, .inl (T 1, 8, .inl (R 3))), (ad 13, .inr (0, [.ref (ad 14), .ref (ad 15), .int (I 8), .int (I 9)])), (ad 14, .inl (T 1, 8, .inl (R 4))), (ad 15, .inl (T 1, 8, .inl (R 5))), (ad 16, .inr (0, [.ref (ad 17), .ref (ad 18), .int (I 10), .int (I 11)])), (ad 17, .inl (T 1, 8, .inl (R 6))), (ad 18, .inl (T 1, 8, .inl (R 7))), (ad 19, .inr (0, [.ref (ad 20), .ref (ad 21), .int (I 12), .int (I 13)])), (ad 20, .inl (T 1, 8, .inl (R 8))), (ad 21, .inl (T 1, 8, .inl (R 9))), (ad 22, .inr (0, [.ref (ad 23), .ref (ad 24), .int (I 14), .int (I 15)])), (ad 23, .inl (T 1, 8, .inl (R 10))), (ad 24, .inl (T 1, 8, .inl (R 11))), (ad 25, .inr (0, [.ref (ad 26), .ref (ad 27), .int (I 16), .int (I 17)])), (ad 26, .inl (T 1, 8, .inl (R 12))), (ad 27, .inl (T 1, 8, .inl (R 13))), (ad 28, .inr (0, [.ref (ad 29), .ref (ad 30), .int (I 18), .int (I 19)])), (ad 29, .inl (T 1, 8, .inl (R 14))), (ad 30, .inl (T 1, 8, .inl (R 15))), (ad 31, .inr (0, [.ref (ad 32), .ref (ad 33), .int (I 20), .int (I 21)])), (ad 32, .inl (T 1, 8, .inl (R 16))), (ad 33, .inl (T 1, 8, .inl (R 17))), (ad 34, .inl (T 1, 8, .inl (R 20))), (ad 35, .inl (T 1, 8, .inl (R 21))), (ad 36, .inl (T 1, 8, .inl (R 22))), (ad 37, .inl (T 1, 8, .inl (R 23))), (ad 38, .inl (T 1, 1, .inl (R 24)))]
section
variable {T : Nat → ClassId} {ad : Nat → Nat} {I : Nat → Int32} {R : Nat → Nat → Int32}
theorem pw_0 : (pw T ad I R)[0]? = some (ad 0, .inr (3, [.ref (ad 1), .ref (ad 4), .int (I 0), .ref (ad 5), .ref (ad 7), .ref (ad 9)])) := rfl
theorem pw_1 : (pw T ad I R)[1]? = some (ad 1, .inr (0, [.ref (ad 2), .ref (ad 3), .int (I 4), .int (I 5)])) := rfl
theorem pw_2 : (pw T ad I R)[2]? = some (ad 2, .inl (T 1, 8, .inl (R 0))) := rfl
theorem pw_3 : (pw T ad I R)[3]? = some (ad 3, .inl (T 1, 8, .inl (R 1))) := rfl
theorem pw_4 : (pw T ad I R)[4]? = some (ad 4, .inl (T 3, 2, .inr (.inr (.inr (.inr (fun j => some (ad (28 + 3 * j)))))))) := rfl
theorem pw_5 : (pw T ad I R)[5]? = some (ad 5, .inr (1, [.ref (ad 6), .int (I 1), .int (I 2)])) := rfl
theorem pw_6 : (pw T ad I R)[6]? = some (ad 6, .inl (T 3, 6, .inr (.inr (.inr (.inr (fun j => some (ad (10 + 3 * j)))))))) := rfl
theorem pw_7 : (pw T ad I R)[7]? = some (ad 7, .inr (2, [.ref (ad 8), .int (I 3)])) := rfl
theorem pw_8 : (pw T ad I R)[8]? = some (ad 8, .inl (T 0, 60, .inl (R 18))) := rfl
theorem pw_9 : (pw T ad I R)[9]? = some (ad 9, .inl (T 1, 8, .inl (R 19))) := rfl
theorem pw_10 : (pw T ad I R)[10]? = some (ad 10, .inr (0, [.ref (ad 11), .ref (ad 12), .int (I 6), .int (I 7)])) := rfl
theorem pw_11 : (pw T ad I R)[11]? = some (ad 11, .inl (T 1, 8, .inl (R 2))) := rfl
theorem pw_12 : (pw T ad I R)[12]? = some (ad 12, .inl (T 1, 8, .inl (R 3))) := rfl
theorem pw_13 : (pw T ad I R)[13]? = some (ad 13, .inr (0, [.ref (ad 14), .ref (ad 15), .int (I 8), .int (I 9)])) := rfl
theorem pw_14 : (pw T ad I R)[14]? = some (ad 14, .inl (T 1, 8, .inl (R 4))) := rfl
theorem pw_15 : (pw T ad I R)[15]? = some (ad 15, .inl (T 1, 8, .inl (R 5))) := rfl
theorem pw_16 : (pw T ad I R)[16]? = some (ad 16, .inr (0, [.ref (ad 17), .ref (ad 18), .int (I 10), .int (I 11)])) := rfl
theorem pw_17 : (pw T ad I R)[17]? = some (ad 17, .inl (T 1, 8, .inl (R 6))) := rfl
theorem pw_18 : (pw T ad I R)[18]? = some (ad 18, .inl (T 1, 8, .inl (R 7))) := rfl
theorem pw_19 : (pw T ad I R)[19]? = some (ad 19, .inr (0, [.ref (ad 20), .ref (ad 21), .int (I 12), .int (I 13)])) := rfl
theorem pw_20 : (pw T ad I R)[20]? = some (ad 20, .inl (T 1, 8, .inl (R 8))) := rfl
theorem pw_21 : (pw T ad I R)[21]? = some (ad 21, .inl (T 1, 8, .inl (R 9))) := rfl
theorem pw_22 : (pw T ad I R)[22]? = some (ad 22, .inr (0, [.ref (ad 23), .ref (ad 24), .int (I 14), .int (I 15)])) := rfl
theorem pw_23 : (pw T ad I R)[23]? = some (ad 23, .inl (T 1, 8, .inl (R 10))) := rfl
theorem pw_24 : (pw T ad I R)[24]? = some (ad 24, .inl (T 1, 8, .inl (R 11))) := rfl
theorem pw_25 : (pw T ad I R)[25]? = some (ad 25, .inr (0, [.ref (ad 26), .ref (ad 27), .int (I 16), .int (I 17)])) := rfl
theorem pw_26 : (pw T ad I R)[26]? = some (ad 26, .inl (T 1, 8, .inl (R 12))) := rfl
theorem pw_27 : (pw T ad I R)[27]? = some (ad 27, .inl (T 1, 8, .inl (R 13))) := rfl
theorem pw_28 : (pw T ad I R)[28]? = some (ad 28, .inr (0, [.ref (ad 29), .ref (ad 30), .int (I 18), .int (I 19)])) := rfl
theorem pw_29 : (pw T ad I R)[29]? = some (ad 29, .inl (T 1, 8, .inl (R 14))) := rfl
theorem pw_30 : (pw T ad I R)[30]? = some (ad 30, .inl (T 1, 8, .inl (R 15))) := rfl
theorem pw_31 : (pw T ad I R)[31]? = some (ad 31, .inr (0, [.ref (ad 32), .ref (ad 33), .int (I 20), .int (I 21)])) := rfl
theorem pw_32 : (pw T ad I R)[32]? = some (ad 32, .inl (T 1, 8, .inl (R 16))) := rfl
theorem pw_33 : (pw T ad I R)[33]? = some (ad 33, .inl (T 1, 8, .inl (R 17))) := rfl
theorem pw_34 : (pw T ad I R)[34]? = some (ad 34, .inl (T 1, 8, .inl (R 20))) := rfl
theorem pw_35 : (pw T ad I R)[35]? = some (ad 35, .inl (T 1, 8, .inl (R 21))) := rfl
theorem pw_36 : (pw T ad I R)[36]? = some (ad 36, .inl (T 1, 8, .inl (R 22))) := rfl
theorem pw_37 : (pw T ad I R)[37]? = some (ad 37, .inl (T 1, 8, .inl (R 23))) := rfl
theorem pw_38 : (pw T ad I R)[38]? = some (ad 38, .inl (T 1, 1, .inl (R 24))) := rfl
theorem pw_I0 {v : Int32} : (pw T ad I R).set 0 (ad 0, .inr (3, [.ref (ad 1), .ref (ad 4), .int v, .ref (ad 5), .ref (ad 7), .ref (ad 9)])) = pw T ad (upd I 0 v) R := rfl
theorem pw_I4 {v : Int32} : (pw T ad I R).set 1 (ad 1, .inr (0, [.ref (ad 2), .ref (ad 3), .int v, .int (I 5)])) = pw T ad (upd I 4 v) R := rfl
theorem pw_I5 {v : Int32} : (pw T ad I R).set 1 (ad 1, .inr (0, [.ref (ad 2), .ref (ad 3), .int (I 4), .int v])) = pw T ad (upd I 5 v) R := rfl
theorem pw_R0 {f : Nat → Int32} : (pw T ad I R).set 2 (ad 2, .inl (T 1, 8, .inl f)) = pw T ad I (updR R 0 f) := rfl
theorem pw_R1 {f : Nat → Int32} : (pw T ad I R).set 3 (ad 3, .inl (T 1, 8, .inl f)) = pw T ad I (updR R 1 f) := rfl
theorem pw_I1 {v : Int32} : (pw T ad I R).set 5 (ad 5, .inr (1, [.ref (ad 6), .int v, .int (I 2)])) = pw T ad (upd I 1 v) R := rfl
theorem pw_I2 {v : Int32} : (pw T ad I R).set 5 (ad 5, .inr (1, [.ref (ad 6), .int (I 1), .int v])) = pw T ad (upd I 2 v) R := rfl
theorem pw_I3 {v : Int32} : (pw T ad I R).set 7 (ad 7, .inr (2, [.ref (ad 8), .int v])) = pw T ad (upd I 3 v) R := rfl
theorem pw_R18 {f : Nat → Int32} : (pw T ad I R).set 8 (ad 8, .inl (T 0, 60, .inl f)) = pw T ad I (updR R 18 f) := rfl
theorem pw_R19 {f : Nat → Int32} : (pw T ad I R).set 9 (ad 9, .inl (T 1, 8, .inl f)) = pw T ad I (updR R 19 f) := rfl
theorem pw_I6 {v : Int32} : (pw T ad I R).set 10 (ad 10, .inr (0, [.ref (ad 11), .ref (ad 12), .int v, .int (I 7)])) = pw T ad (upd I 6 v) R := rfl
theorem pw_I7 {v : Int32} : (pw T ad I R).set 10 (ad 10, .inr (0, [.ref (ad 11), .ref (ad 12), .int (I 6), .int v])) = pw T ad (upd I 7 v) R := rfl
theorem pw_R2 {f : Nat → Int32} : (pw T ad I R).set 11 (ad 11, .inl (T 1, 8, .inl f)) = pw T ad I (updR R 2 f) := rfl
theorem pw_R3 {f : Nat → Int32} : (pw T ad I R).set 12 (ad 12, .inl (T 1, 8, .inl f)) = pw T ad I (updR R 3 f) := rfl
theorem pw_I8 {v : Int32} : (pw T ad I R).set 13 (ad 13, .inr (0, [.ref (ad 14), .ref (ad 15), .int v, .int (I 9)])) = pw T ad (upd I 8 v) R := rfl
theorem pw_I9 {v : Int32} : (pw T ad I R).set 13 (ad 13, .inr (0, [.ref (ad 14), .ref (ad 15), .int (I 8), .int v])) = pw T ad (upd I 9 v) R := rfl
theorem pw_R4 {f : Nat → Int32} : (pw T ad I R).set 14 (ad 14, .inl (T 1, 8, .inl f)) = pw T ad I (updR R 4 f) := rfl
theorem pw_R5 {f : Nat → Int32} : (pw T ad I R).set 15 (ad 15, .inl (T 1, 8, .inl f)) = pw T ad I (updR R 5 f) := rfl
theorem pw_I10 {v : Int32} : (pw T ad I R).set 16 (ad 16, .inr (0, [.ref (ad 17), .ref (ad 18), .int v, .int (I 11)])) = pw T ad (upd I 10 v) R := rfl
theorem pw_I11 {v : Int32} : (pw T ad I R).set 16 (ad 16, .inr (0, [.ref (ad 17), .ref (ad 18), .int (I 10), .int v])) = pw T ad (upd I 11 v) R := rfl
theorem pw_R6 {f : Nat → Int32} : (pw T ad I R).set 17 (ad 17, .inl (T 1, 8, .inl f)) = pw T ad I (updR R 6 f) := rfl
theorem pw_R7 {f : Nat → Int32} : (pw T ad I R).set 18 (ad 18, .inl (T 1, 8, .inl f)) = pw T ad I (updR R 7 f) := rfl
theorem pw_I12 {v : Int32} : (pw T ad I R).set 19 (ad 19, .inr (0, [.ref (ad 20), .ref (ad 21), .int v, .int (I 13)])) = pw T ad (upd I 12 v) R := rfl
theorem pw_I13 {v : Int32} : (pw T ad I R).set 19 (ad 19, .inr (0, [.ref (ad 20), .ref (ad 21), .int (I 12), .int v])) = pw T ad (upd I 13 v) R := rfl
theorem pw_R8 {f : Nat → Int32} : (pw T ad I R).set 20 (ad 20, .inl (T 1, 8, .inl f)) = pw T ad I (updR R 8 f) := rfl
theorem pw_R9 {f : Nat → Int32} : (pw T ad I R).set 21 (ad 21, .inl (T 1, 8, .inl f)) = pw T ad I (updR R 9 f) := rfl
theorem pw_I14 {v : Int32} : (pw T ad I R).set 22 (ad 22, .inr (0, [.ref (ad 23), .ref (ad 24), .int v, .int (I 15)])) = pw T ad (upd I 14 v) R := rfl
theorem pw_I15 {v : Int32} : (pw T ad I R).set 22 (ad 22, .inr (0, [.ref (ad 23), .ref (ad 24), .int (I 14), .int v])) = pw T ad (upd I 15 v) R := rfl
theorem pw_R10 {f : Nat → Int32} : (pw T ad I R).set 23 (ad 23, .inl (T 1, 8, .inl f)) = pw T ad I (updR R 10 f) := rfl
theorem pw_R11 {f : Nat → Int32} : (pw T ad I R).set 24 (ad 24, .inl (T 1, 8, .inl f)) = pw T ad I (updR R 11 f) := rfl
theorem pw_I16 {v : Int32} : (pw T ad I R).set 25 (ad 25, .inr (0, [.ref (ad 26), .ref (ad 27), .int v, .int (I 17)])) = pw T ad (upd I 16 v) R := rfl
theorem pw_I17 {v : Int32} : (pw T ad I R).set 25 (ad 25, .inr (0, [.ref (ad 26), .ref (ad 27), .int (I 16), .int v])) = pw T ad (upd I 17 v) R := rfl
theorem pw_R12 {f : Nat → Int32} : (pw T ad I R).set 26 (ad 26, .inl (T 1, 8, .inl f)) = pw T ad I (updR R 12 f) := rfl
theorem pw_R13 {f : Nat → Int32} : (pw T ad I R).set 27 (ad 27, .inl (T 1, 8, .inl f)) = pw T ad I (updR R 13 f) := rfl
theorem pw_I18 {v : Int32} : (pw T ad I R).set 28 (ad 28, .inr (0, [.ref (ad 29), .ref (ad 30), .int v, .int (I 19)])) = pw T ad (upd I 18 v) R := rfl
theorem pw_I19 {v : Int32} : (pw T ad I R).set 28 (ad 28, .inr (0, [.ref (ad 29), .ref (ad 30), .int (I 18), .int v])) = pw T ad (upd I 19 v) R := rfl
theorem pw_R14 {f : Nat → Int32} : (pw T ad I R).set 29 (ad 29, .inl (T 1, 8, .inl f)) = pw T ad I (updR R 14 f) := rfl
theorem pw_R15 {f : Nat → Int32} : (pw T ad I R).set 30 (ad 30, .inl (T 1, 8, .inl f)) = pw T ad I (updR R 15 f) := rfl
theorem pw_I20 {v : Int32} : (pw T ad I R).set 31 (ad 31, .inr (0, [.ref (ad 32), .ref (ad 33), .int v, .int (I 21)])) = pw T ad (upd I 20 v) R := rfl
theorem pw_I21 {v : Int32} : (pw T ad I R).set 31 (ad 31, .inr (0, [.ref (ad 32), .ref (ad 33), .int (I 20), .int v])) = pw T ad (upd I 21 v) R := rfl
theorem pw_R16 {f : Nat → Int32} : (pw T ad I R).set 32 (ad 32, .inl (T 1, 8, .inl f)) = pw T ad I (updR R 16 f) := rfl
theorem pw_R17 {f : Nat → Int32} : (pw T ad I R).set 33 (ad 33, .inl (T 1, 8, .inl f)) = pw T ad I (updR R 17 f) := rfl
theorem pw_R20 {f : Nat → Int32} : (pw T ad I R).set 34 (ad 34, .inl (T 1, 8, .inl f)) = pw T ad I (updR R 20 f) := rfl
theorem pw_R21 {f : Nat → Int32} : (pw T ad I R).set 35 (ad 35, .inl (T 1, 8, .inl f)) = pw T ad I (updR R 21 f) := rfl
theorem pw_R22 {f : Nat → Int32} : (pw T ad I R).set 36 (ad 36, .inl (T 1, 8, .inl f)) = pw T ad I (updR R 22 f) := rfl
theorem pw_R23 {f : Nat → Int32} : (pw T ad I R).set 37 (ad 37, .inl (T 1, 8, .inl f)) = pw T ad I (updR R 23 f) := rfl
theorem pw_R24 {f : Nat → Int32} : (pw T ad I R).set 38 (ad 38, .inl (T 1, 1, .inl f)) = pw T ad I (updR R 24 f) := rfl
theorem pw_len : (pw T ad I R).length = 39 := rfl
theorem pw_fst : (pw T ad I R).map Prod.fst = (List.range 39).map ad := rfl
theorem pw_ad {k : Nat} {q : Nat × va_E} (h : (pw T ad I R)[k]? = some q) : k < 39 ∧ q.1 = ad k := by
  have h1 : ((pw T ad I R).map Prod.fst)[k]? = some q.1 := by rw [List.getElem?_map, h]; rfl
  rw [pw_fst, List.getElem?_map] at h1
  rcases Nat.lt_or_ge k 39 with hk | hk
  · rw [List.getElem?_range hk] at h1
    exact ⟨hk, (Option.some.inj h1).symm⟩
  · rw [List.getElem?_eq_none (by simpa using hk)] at h1
    cases h1
end
def qw (T : Nat → ClassId) (ad : Nat → Nat) (I : Nat → Int32) (R : Nat → Nat → Int32) : va_W := [(ad 0, .inr (3, [.ref (ad 1), .ref (ad 4), .int (I 0), .ref (ad 5), .ref (ad 7), .ref (ad 9)])), (ad 1, .inr (0, [.ref (ad 2), .ref (ad 3), .int (I 4), .int (I 5)])), (ad 2, .inl (T 1, 8, .inl (R 0))), (ad 3, .inl (T 1, 8, .inl (R 1))), (ad 4, .inl (T 3, 2, .inr (.inr (.inr (.inr (fun j => some (ad (28 + 3 * j)))))))), (ad 5, .inr (1, [.ref (ad 6), .int (I 1), .int (I 2)])), (ad 6, .inl (T 3, 6, .inr (.inr (.inr (.inr (fun j => some (ad (10 + 3 * j)))))))), (ad 7, .inr (2, [.ref (ad 8), .int (I 3)])), (ad 8, .inl (T 0, 60, .inl (R 18))), (ad 9, .inl (T 1, 8, .inl (R 19))), (ad 10, .inr (0, [.ref (ad 11), .ref (ad 12), .int (I 6), .int (I 7)])), (ad 11, .inl (T 1, 8, .inl (R 2))), (ad 12, .inl (T 1, 8, .inl (R 3))), (ad 13, .inr (0, [.ref (ad 14), .ref (ad 15), .int (I 8), .int (I 9)])), (ad 14, .inl (T 1, 8, .inl (R 4))), (ad 15, .inl (T 1, 8, .inl (R 5))), (ad 16, .inr (0, [.ref (ad 17), .ref (ad 18), .int (I 10), .int (I 11)])), (ad 17, .inl (T 1, 8, .inl (R 6))), (ad 18, .inl (T 1, 8, .inl (R 7))), (ad 19, .inr (0, [.ref (ad 20), .ref (ad 21), .int (I 12), .int (I 13)])), (ad 20, .inl (T 1, 8, .inl (R 8))), (ad 21, .inl (T 1, 8, .inl (R 9))), (ad 22, .inr (0, [.ref (ad 23), .ref (ad 24), .int (I 14), .int (I 15)])), (ad 23, .inl (T 1, 8, .inl (R 10))), (ad 24, .inl (T 1, 8, .inl (R 11))), (ad 25, .inr (0, [.ref (ad 26), .ref (ad 27), .int (I 16), .int (I 17)])), (ad 26, .inl (T 1, 8, .inl (R 12))), (ad 27, .inl (T 1, 8, .inl (R 13))), (ad 28, .inr (0, [.ref (ad 29), .ref (ad 30), .int (I 18), .int (I 19)])), (ad 29, .inl (T 1, 8, .inl (R 14))), (ad 30, .inl (T 1, 8, .inl (R 15))), (ad 31, .inr (0, [.ref (ad 32), .ref (ad 33), .int (I 20), .int (I 21)])), (ad 32, .inl (T 1, 8, .inl (R 16))), (ad 33, .inl (T 1, 8, .inl (R 17))), (ad 34, .inl (T 1, 8, .inl (R 20))), (ad 35, .inl (T 1, 8, .inl (R 21))), (ad 36, .inl (T 1, 8, .inl (R 22))), (ad 37, .inl (T 1, 8, .inl (R 23))), (ad 38, .inl (T 1, 1, .inl (R 24))), (ad 39, .inl (T 1, 8, .inl (R 25)))]
section
variable {T : Nat → ClassId} {ad : Nat → Nat} {I : Nat → Int32} {R : Nat → Nat → Int32}
theorem qw_0 : (qw T ad I R)[0]? = some (ad 0, .inr (3, [.ref (ad 1), .ref (ad 4), .int (I 0), .ref (ad 5), .ref (ad 7), .ref (ad 9)])) := rfl
theorem qw_1 : (qw T ad I R)[1]? = some (ad 1, .inr (0, [.ref (ad 2), .ref (ad 3), .int (I 4), .int (I 5)])) := rfl
theorem qw_2 : (qw T ad I R)[2]? = some (ad 2, .inl (T 1, 8, .inl (R 0))) := rfl
theorem qw_3 : (qw T ad I R)[3]? = some (ad 3, .inl (T 1, 8, .inl (R 1))) := rfl
theorem qw_4 : (qw T ad I R)[4]? = some (ad 4, .inl (T 3, 2, .inr (.inr (.inr (.inr (fun j => some (ad (28 + 3 * j)))))))) := rfl
theorem qw_5 : (qw T ad I R)[5]? = some (ad 5, .inr (1, [.ref (ad 6), .int (I 1), .int (I 2)])) := rfl
theorem qw_6 : (qw T ad I R)[6]? = some (ad 6, .inl (T 3, 6, .inr (.inr (.inr (.inr (fun j => some (ad (10 + 3 * j)))))))) := rfl
theorem qw_7 : (qw T ad I R)[7]? = some (ad 7, .inr (2, [.ref (ad 8), .int (I 3)])) := rfl
theorem qw_8 : (qw T ad I R)[8]? = some (ad 8, .inl (T 0, 60, .inl (R 18))) := rfl
theorem qw_9 : (qw T ad I R)[9]? = some (ad 9, .inl (T 1, 8, .inl (R 19))) := rfl
theorem qw_10 : (qw T ad I R)[10]? = some (ad 10, .inr (0, [.ref (ad 11), .ref (ad 12), .int (I 6), .int (I 7)])) := rfl
theorem qw_11 : (qw T ad I R)[11]? = some (ad 11, .inl (T 1, 8, .inl (R 2))) := rfl
theorem qw_12 : (qw T ad I R)[12]? = some (ad 12, .inl (T 1, 8, .inl (R 3))) := rfl
theorem qw_13 : (qw T ad I R)[13]? = some (ad 13, .inr (0, [.ref (ad 14), .ref (ad 15), .int (I 8), .int (I 9)])) := rfl
theorem qw_14 : (qw T ad I R)[14]? = some (ad 14, .inl (T 1, 8, .inl (R 4))) := rfl
theorem qw_15 : (qw T ad I R)[15]? = some (ad 15, .inl (T 1, 8, .inl (R 5))) := rfl
theorem qw_16 : (qw T ad I R)[16]? = some (ad 16, .inr (0, [.ref (ad 17), .ref (ad 18), .int (I 10), .int (I 11)])) := rfl
theorem qw_17 : (qw T ad I R)[17]? = some (ad 17, .inl (T 1, 8, .inl (R 6))) := rfl
theorem qw_18 : (qw T ad I R)[18]? = some (ad 18, .inl (T 1, 8, .inl (R 7))) := rfl
theorem qw_19 : (qw T ad I R)[19]? = some (ad 19, .inr (0, [.ref (ad 20), .ref (ad 21), .int (I 12), .int (I 13)])) := rfl
theorem qw_20 : (qw T ad I R)[20]? = some (ad 20, .inl (T 1, 8, .inl (R 8))) := rfl
theorem qw_21 : (qw T ad I R)[21]? = some (ad 21, .inl (T 1, 8, .inl (R 9))) := rfl
theorem qw_22 : (qw T ad I R)[22]? = some (ad 22, .inr (0, [.ref (ad 23), .ref (ad 24), .int (I 14), .int (I 15)])) := rfl
theorem qw_23 : (qw T ad I R)[23]? = some (ad 23, .inl (T 1, 8, .inl (R 10))) := rfl
theorem qw_24 : (qw T ad I R)[24]? = some (ad 24, .inl (T 1, 8, .inl (R 11))) := rfl
theorem qw_25 : (qw T ad I R)[25]? = some (ad 25, .inr (0, [.ref (ad 26), .ref (ad 27), .int (I 16), .int (I 17)])) := rfl
theorem qw_26 : (qw T ad I R)[26]? = some (ad 26, .inl (T 1, 8, .inl (R 12))) := rfl
theorem qw_27 : (qw T ad I R)[27]? = some (ad 27, .inl (T 1, 8, .inl (R 13))) := rfl
theorem qw_28 : (qw T ad I R)[28]? = some (ad 28, .inr (0, [.ref (ad 29), .ref (ad 30), .int (I 18), .int (I 19)])) := rfl
theorem qw_29 : (qw T ad I R)[29]? = some (ad 29, .inl (T 1, 8, .inl (R 14))) := rfl
theorem qw_30 : (qw T ad I R)[30]? = some (ad 30, .inl (T 1, 8, .inl (R 15))) := rfl
theorem qw_31 : (qw T ad I R)[31]? = some (ad 31, .inr (0, [.ref (ad 32), .ref (ad 33), .int (I 20), .int (I 21)])) := rfl
theorem qw_32 : (qw T ad I R)[32]? = some (ad 32, .inl (T 1, 8, .inl (R 16))) := rfl
theorem qw_33 : (qw T ad I R)[33]? = some (ad 33, .inl (T 1, 8, .inl (R 17))) := rfl
theorem qw_34 : (qw T ad I R)[34]? = some (ad 34, .inl (T 1, 8, .inl (R 20))) := rfl
theorem qw_35 : (qw T ad I R)[35]? = some (ad 35, .inl (T 1, 8, .inl (R 21))) := rfl
theorem qw_36 : (qw T ad I R)[36]? = some (ad 36, .inl (T 1, 8, .inl (R 22))) := rfl
theorem qw_37 : (qw T ad I R)[37]? = some (ad 37, .inl (T 1, 8, .inl (R 23))) := rfl
theorem qw_38 : (qw T ad I R)[38]? = some (ad 38, .inl (T 1, 1, .inl (R 24))) := rfl
theorem qw_39 : (qw T ad I R)[39]? = some (ad 39, .inl (T 1, 8, .inl (R 25))) := rfl
theorem qw_I0 {v : Int32} : (qw T ad I R).set 0 (ad 0, .inr (3, [.ref (ad 1), .ref (ad 4), .int v, .ref (ad 5), .ref (ad 7), .ref (ad 9)])) = qw T ad (upd I 0 v) R := rfl
theorem qw_I4 {v : Int32} : (qw T ad I R).set 1 (ad 1, .inr (0, [.ref (ad 2), .ref (ad 3), .int v, .int (I 5)])) = qw T ad (upd I 4 v) R := rfl
theorem qw_I5 {v : Int32} : (qw T ad I R).set 1 (ad 1, .inr (0, [.ref (ad 2), .ref (ad 3), .int (I 4), .int v])) = qw T ad (upd I 5 v) R := rfl
theorem qw_R0 {f : Nat → Int32} : (qw T ad I R).set 2 (ad 2, .inl (T 1, 8, .inl f)) = qw T ad I (updR R 0 f) := rfl
theorem qw_R1 {f : Nat → Int32} : (qw T ad I R).set 3 (ad 3, .inl (T 1, 8, .inl f)) = qw T ad I (updR R 1 f) := rfl
theorem qw_I1 {v : Int32} : (qw T ad I R).set 5 (ad 5, .inr (1, [.ref (ad 6), .int v, .int (I 2)])) = qw T ad (upd I 1 v) R := rfl
theorem qw_I2 {v : Int32} : (qw T ad I R).set 5 (ad 5, .inr (1, [.ref (ad 6), .int (I 1), .int v])) = qw T ad (upd I 2 v) R := rfl
theorem qw_I3 {v : Int32} : (qw T ad I R).set 7 (ad 7, .inr (2, [.ref (ad 8), .int v])) = qw T ad (upd I 3 v) R := rfl
theorem qw_R18 {f : Nat → Int32} : (qw T ad I R).set 8 (ad 8, .inl (T 0, 60, .inl f)) = qw T ad I (updR R 18 f) := rfl
theorem qw_R19 {f : Nat → Int32} : (qw T ad I R).set 9 (ad 9, .inl (T 1, 8, .inl f)) = qw T ad I (updR R 19 f) := rfl
theorem qw_I6 {v : Int32} : (qw T ad I R).set 10 (ad 10, .inr (0, [.ref (ad 11), .ref (ad 12), .int v, .int (I 7)])) = qw T ad (upd I 6 v) R := rfl
theorem qw_I7 {v : Int32} : (qw T ad I R).set 10 (ad 10, .inr (0, [.ref (ad 11), .ref (ad 12), .int (I 6), .int v])) = qw T ad (upd I 7 v) R := rfl
theorem qw_R2 {f : Nat → Int32} : (qw T ad I R).set 11 (ad 11, .inl (T 1, 8, .inl f)) = qw T ad I (updR R 2 f) := rfl
theorem qw_R3 {f : Nat → Int32} : (qw T ad I R).set 12 (ad 12, .inl (T 1, 8, .inl f)) = qw T ad I (updR R 3 f) := rfl
theorem qw_I8 {v : Int32} : (qw T ad I R).set 13 (ad 13, .inr (0, [.ref (ad 14), .ref (ad 15), .int v, .int (I 9)])) = qw T ad (upd I 8 v) R := rfl
theorem qw_I9 {v : Int32} : (qw T ad I R).set 13 (ad 13, .inr (0, [.ref (ad 14), .ref (ad 15), .int (I 8), .int v])) = qw T ad (upd I 9 v) R := rfl
theorem qw_R4 {f : Nat → Int32} : (qw T ad I R).set 14 (ad 14, .inl (T 1, 8, .inl f)) = qw T ad I (updR R 4 f) := rfl
theorem qw_R5 {f : Nat → Int32} : (qw T ad I R).set 15 (ad 15, .inl (T 1, 8, .inl f)) = qw T ad I (updR R 5 f) := rfl
theorem qw_I10 {v : Int32} : (qw T ad I R).set 16 (ad 16, .inr (0, [.ref (ad 17), .ref (ad 18), .int v, .int (I 11)])) = qw T ad (upd I 10 v) R := rfl
theorem qw_I11 {v : Int32} : (qw T ad I R).set 16 (ad 16, .inr (0, [.ref (ad 17), .ref (ad 18), .int (I 10), .int v])) = qw T ad (upd I 11 v) R := rfl
theorem qw_R6 {f : Nat → Int32} : (qw T ad I R).set 17 (ad 17, .inl (T 1, 8, .inl f)) = qw T ad I (updR R 6 f) := rfl
theorem qw_R7 {f : Nat → Int32} : (qw T ad I R).set 18 (ad 18, .inl (T 1, 8, .inl f)) = qw T ad I (updR R 7 f) := rfl
theorem qw_I12 {v : Int32} : (qw T ad I R).set 19 (ad 19, .inr (0, [.ref (ad 20), .ref (ad 21), .int v, .int (I 13)])) = qw T ad (upd I 12 v) R := rfl
theorem qw_I13 {v : Int32} : (qw T ad I R).set 19 (ad 19, .inr (0, [.ref (ad 20), .ref (ad 21), .int (I 12), .int v])) = qw T ad (upd I 13 v) R := rfl
theorem qw_R8 {f : Nat → Int32} : (qw T ad I R).set 20 (ad 20, .inl (T 1, 8, .inl f)) = qw T ad I (updR R 8 f) := rfl
theorem qw_R9 {f : Nat → Int32} : (qw T ad I R).set 21 (ad 21, .inl (T 1, 8, .inl f)) = qw T ad I (updR R 9 f) := rfl
theorem qw_I14 {v : Int32} : (qw T ad I R).set 22 (ad 22, .inr (0, [.ref (ad 23), .ref (ad 24), .int v, .int (I 15)])) = qw T ad (upd I 14 v) R := rfl
theorem qw_I15 {v : Int32} : (qw T ad I R).set 22 (ad 22, .inr (0, [.ref (ad 23), .ref (ad 24), .int (I 14), .int v])) = qw T ad (upd I 15 v) R := rfl
theorem qw_R10 {f : Nat → Int32} : (qw T ad I R).set 23 (ad 23, .inl (T 1, 8, .inl f)) = qw T ad I (updR R 10 f) := rfl
theorem qw_R11 {f : Nat → Int32} : (qw T ad I R).set 24 (ad 24, .inl (T 1, 8, .inl f)) = qw T ad I (updR R 11 f) := rfl
theorem qw_I16 {v : Int32} : (qw T ad I R).set 25 (ad 25, .inr (0, [.ref (ad 26), .ref (ad 27), .int v, .int (I 17)])) = qw T ad (upd I 16 v) R := rfl
theorem qw_I17 {v : Int32} : (qw T ad I R).set 25 (ad 25, .inr (0, [.ref (ad 26), .ref (ad 27), .int (I 16), .int v])) = qw T ad (upd I 17 v) R := rfl
theorem qw_R12 {f : Nat → Int32} : (qw T ad I R).set 26 (ad 26, .inl (T 1, 8, .inl f)) = qw T ad I (updR R 12 f) := rfl
theorem qw_R13 {f : Nat → Int32} : (qw T ad I R).set 27 (ad 27, .inl (T 1, 8, .inl f)) = qw T ad I (updR R 13 f) := rfl
theorem qw_I18 {v : Int32} : (qw T ad I R).set 28 (ad 28, .inr (0, [.ref (ad 29), .ref (ad 30), .int v, .int (I 19)])) = qw T ad (upd I 18 v) R := rfl
theorem qw_I19 {v : Int32} : (qw T ad I R).set 28 (ad 28, .inr (0, [.ref (ad 29), .ref (ad 30), .int (I 18), .int v])) = qw T ad (upd I 19 v) R := rfl
theorem qw_R14 {f : Nat → Int32} : (qw T ad I R).set 29 (ad 29, .inl (T 1, 8, .inl f)) = qw T ad I (updR R 14 f) := rfl
theorem qw_R15 {f : Nat → Int32} : (qw T ad I R).set 30 (ad 30, .inl (T 1, 8, .inl f)) = qw T ad I (updR R 15 f) := rfl
theorem qw_I20 {v : Int32} : (qw T ad I R).set 31 (ad 31, .inr (0, [.ref (ad 32), .ref (ad 33), .int v, .int (I 21)])) = qw T ad (upd I 20 v) R := rfl
theorem qw_I21 {v : Int32} : (qw T ad I R).set 31 (ad 31, .inr (0, [.ref (ad 32), .ref (ad 33), .int (I 20), .int v])) = qw T ad (upd I 21 v) R := rfl
theorem qw_R16 {f : Nat → Int32} : (qw T ad I R).set 32 (ad 32, .inl (T 1, 8, .inl f)) = qw T ad I (updR R 16 f) := rfl
theorem qw_R17 {f : Nat → Int32} : (qw T ad I R).set 33 (ad 33, .inl (T 1, 8, .inl f)) = qw T ad I (updR R 17 f) := rfl
theorem qw_R20 {f : Nat → Int32} : (qw T ad I R).set 34 (ad 34, .inl (T 1, 8, .inl f)) = qw T ad I (updR R 20 f) := rfl
theorem qw_R21 {f : Nat → Int32} : (qw T ad I R).set 35 (ad 35, .inl (T 1, 8, .inl f)) = qw T ad I (updR R 21 f) := rfl
theorem qw_R22 {f : Nat → Int32} : (qw T ad I R).set 36 (ad 36, .inl (T 1, 8, .inl f)) = qw T ad I (updR R 22 f) := rfl
theorem qw_R23 {f : Nat → Int32} : (qw T ad I R).set 37 (ad 37, .inl (T 1, 8, .inl f)) = qw T ad I (updR R 23 f) := rfl
theorem qw_R24 {f : Nat → Int32} : (qw T ad I R).set 38 (ad 38, .inl (T 1, 1, .inl f)) = qw T ad I (updR R 24 f) := rfl
theorem qw_R25 {f : Nat → Int32} : (qw T ad I R).set 39 (ad 39, .inl (T 1, 8, .inl f)) = qw T ad I (updR R 25 f) := rfl
theorem qw_len : (qw T ad I R).length = 40 := rfl
theorem qw_fst : (qw T ad I R).map Prod.fst = (List.range 40).map ad := rfl
theorem qw_ad {k : Nat} {q : Nat × va_E} (h : (qw T ad I R)[k]? = some q) : k < 40 ∧ q.1 = ad k := by
  have h1 : ((qw T ad I R).map Prod.fst)[k]? = some q.1 := by rw [List.getElem?_map, h]; rfl
  rw [qw_fst, List.getElem?_map] at h1
  rcases Nat.lt_or_ge k 40 with hk | hk
  · rw [List.getElem?_range hk] at h1
    exact ⟨hk, (Option.some.inj h1).symm⟩
  · rw [List.getElem?_eq_none (by simpa using hk)] at h1
    cases h1
end
def hw (T : Nat → ClassId) (ad : Nat → Nat) (I : Nat → Int32) (R : Nat → Nat → Int32) : va_W := [(ad 0, .inl (T 1, 8, .inl (R 0)))]
section
variable {T : Nat → ClassId} {ad : Nat → Nat} {I : Nat → Int32} {R : Nat → Nat → Int32}
theorem hw_0 : (hw T ad I R)[0]? = some (ad 0, .inl (T 1, 8, .inl (R 0))) := rfl
theorem hw_R0 {f : Nat → Int32} : (hw T ad I R).set 0 (ad 0, .inl (T 1, 8, .inl f)) = hw T ad I (updR R 0 f) := rfl
theorem hw_len : (hw T ad I R).length = 1 := rfl
theorem hw_fst : (hw T ad I R).map Prod.fst = (List.range 1).map ad := rfl
theorem hw_ad {k : Nat} {q : Nat × va_E} (h : (hw T ad I R)[k]? = some q) : k < 1 ∧ q.1 = ad k := by
  have h1 : ((hw T ad I R).map Prod.fst)[k]? = some q.1 := by rw [List.getElem?_map, h]; rfl
  rw [hw_fst, List.getElem?_map] at h1
  rcases Nat.lt_or_ge k 1 with hk | hk
  · rw [List.getElem?_range hk] at h1
    exact ⟨hk, (Option.some.inj h1).symm⟩
  · rw [List.getElem?_eq_none (by simpa using hk)] at h1
    cases h1
end
/-- the addresses of a world are apart -/
def AD (n : Nat) (ad : Nat → Nat) : Prop := ∀ i j : Nat, i < n → j < n → ad i = ad j → i = j
/-- which cells a method over n cells may change -/
def cA (n : Nat) (ad : Nat → Nat) (sz : Nat) : Nat → Prop := fun q => (∃ k : Nat, k < n ∧ q = ad k) ∨ sz ≤ q
theorem cw_D {A : Nat → Prop} {T : Nat → ClassId} {ad : Nat → Nat} {I : Nat → Int32} {R : Nat → Nat → Int32} (h : AD 34 ad) (hA : ∀ k, k < 34 → A (ad k)) : va_D A (cw T ad I R) :=
  ⟨fun i j p q hi hj e => by
    obtain ⟨a1, a2⟩ := cw_ad hi
    obtain ⟨b1, b2⟩ := cw_ad hj
    exact h i j a1 b1 (by rw [← a2, ← b2]; exact e), fun k q hk => by
    obtain ⟨a1, a2⟩ := cw_ad hk
    rw [a2]; exact hA k a1⟩
theorem gw_D {A : Nat → Prop} {T : Nat → ClassId} {ad : Nat → Nat} {I : Nat → Int32} {R : Nat → Nat → Int32} (h : AD 6 ad) (hA : ∀ k, k < 6 → A (ad k)) : va_D A (gw T ad I R) :=
  ⟨fun i j p q hi hj e => by
    obtain ⟨a1, a2⟩ := gw_ad hi
    obtain ⟨b1, b2⟩ := gw_ad hj
    exact h i j a1 b1 (by rw [← a2, ← b2]; exact e), fun k q hk => by
    obtain ⟨a1, a2⟩ := gw_ad hk
    rw [a2]; exact hA k a1⟩
theorem pw_D {A : Nat → Prop} {T : Nat → ClassId} {ad : Nat → Nat} {I : Nat → Int32} {R : Nat → Nat → Int32} (h : AD 39 ad) (hA : ∀ k, k < 39 → A (ad k)) : va_D A (pw T ad I R) :=
  ⟨fun i j p q hi hj e => by
    obtain ⟨a1, a2⟩ := pw_ad hi
    obtain ⟨b1, b2⟩ := pw_ad hj
    exact h i j a1 b1 (by rw [← a2, ← b2]; exact e), fun k q hk => by
    obtain ⟨a1, a2⟩ := pw_ad hk
    rw [a2]; exact hA k a1⟩
theorem qw_D {A : Nat → Prop} {T : Nat → ClassId} {ad : Nat → Nat} {I : Nat → Int32} {R : Nat → Nat → Int32} (h : AD 40 ad) (hA : ∀ k, k < 40 → A (ad k)) : va_D A (qw T ad I R) :=
  ⟨fun i j p q hi hj e => by
    obtain ⟨a1, a2⟩ := qw_ad hi
    obtain ⟨b1, b2⟩ := qw_ad hj
    exact h i j a1 b1 (by rw [← a2, ← b2]; exact e), fun k q hk => by
    obtain ⟨a1, a2⟩ := qw_ad hk
    rw [a2]; exact hA k a1⟩
theorem hw_D {A : Nat → Prop} {T : Nat → ClassId} {ad : Nat → Nat} {I : Nat → Int32} {R : Nat → Nat → Int32} (h : AD 1 ad) (hA : ∀ k, k < 1 → A (ad k)) : va_D A (hw T ad I R) :=
  ⟨fun i j p q hi hj e => by
    obtain ⟨a1, a2⟩ := hw_ad hi
    obtain ⟨b1, b2⟩ := hw_ad hj
    exact h i j a1 b1 (by rw [← a2, ← b2]; exact e), fun k q hk => by
    obtain ⟨a1, a2⟩ := hw_ad hk
    rw [a2]; exact hA k a1⟩
theorem cA_in {n : Nat} {ad : Nat → Nat} {sz k : Nat} (h : k < n) : cA n ad sz (ad k) := Or.inl ⟨k, h, rfl⟩
theorem cA_new {n : Nat} {ad : Nat → Nat} {sz q : Nat} (h : sz ≤ q) : cA n ad sz q := Or.inr h
theorem cA_le {n : Nat} {ad : Nat → Nat} {a b : Nat} (h : a ≤ b) : ∀ q, cA n ad b q → cA n ad a q := fun q hq => hq.elim Or.inl (fun g => Or.inr (Nat.le_trans h g))
/-- an array holds its places alone -/
theorem cell_congr {c : ClassId} {n : Nat} {f g : Nat → Int32} (h : ∀ j, j < n → f j = g j) : vp_cell c (n, .inl f) = vp_cell c (n, .inl g) := by
  have e : (fun j : Fin n => Value.int (f j.val)) = fun j : Fin n => Value.int (g j.val) := funext fun j => by rw [h j.val j.isLt]
  simp only [vp_cell, arrV, e]

/-- the links to what nest mates keep for themselves -/
def nestW : List Cond := [.fieldLinkNest "SquareGears" 66 "SquareGears$Gears" "amplitudes" "[I" "SquareGears", .fieldLinkNest "SquareGears" 93 "SquareGears$Gears" "pattern" "[I" "SquareGears", .fieldLinkNest "SquareGears" 69 "SquareGears$Gears" "lostWheels" "I" "SquareGears", .fieldLinkNest "SquareGears" 108 "SquareGears$Gears" "changedByFits" "I" "SquareGears", .fieldLinkNest "SquareGears" 157 "SquareGears$SavedGears" "count" "I" "SquareGears", .methodLinkNest "SquareGears" 11 ⟨"SquareGears$Gears", "<init>", "()V"⟩ "SquareGears", .methodLinkNest "SquareGears" 26 ⟨"SquareGears$SavedGears", "<init>", "()V"⟩ "SquareGears", .methodLinkNest "SquareGears$SavedGears" 22 ⟨"SquareGears$Gears", "<init>", "()V"⟩ "SquareGears", .methodLinkNest "SquareGears" 33 ⟨"SquareGears$WheelText", "<init>", "()V"⟩ "SquareGears", .methodLinkNest "SquareGears" 144 ⟨"SquareGears$Gears", "drawingWheels", "()I"⟩ "SquareGears", .methodLinkNest "SquareGears" 96 ⟨"SquareGears$Gears", "traceAt", "(I)I"⟩ "SquareGears", .methodLinkNest "SquareGears$Gears" 39 ⟨"SquareGears", "wave", "(II)I"⟩ "SquareGears", .methodLinkNest "SquareGears" 185 ⟨"SquareGears$Gears", "differenceAt", "(I)I"⟩ "SquareGears", .methodLinkNest "SquareGears" 251 ⟨"SquareGears$Gears", "jumpAt", "(I)I"⟩ "SquareGears", .methodLinkNest "SquareGears" 201 ⟨"SquareGears$Gears", "drawnAmplitude", "(I)I"⟩ "SquareGears", .methodLinkNest "SquareGears" 162 ⟨"SquareGears$SavedGears", "popInto", "(LSquareGears$Gears;)V"⟩ "SquareGears", .methodLinkNest "SquareGears$SavedGears" 23 ⟨"SquareGears$Gears", "takeFrom", "(LSquareGears$Gears;)V"⟩ "SquareGears", .methodLinkNest "SquareGears" 72 ⟨"SquareGears$Gears", "isLost", "(I)Z"⟩ "SquareGears", .methodLinkNest "SquareGears" 99 ⟨"SquareGears$Gears", "patternAmplitude", "(I)I"⟩ "SquareGears", .methodLinkNest "SquareGears" 269 ⟨"SquareGears$Gears", "errorWithout", "(I)I"⟩ "SquareGears", .methodLinkNest "SquareGears" 62 ⟨"SquareGears$SavedGears", "push", "(LSquareGears$Gears;)V"⟩ "SquareGears"]
def NW (U : State) : Prop := ∀ w ∈ nestW, va_Nw w U
theorem NW.tab : ∀ w ∈ nestW, w.onTables = true := by decide +kernel
theorem NW.same {u U : State} (h : u.vm = U.vm) (hN : NW u) : NW U := fun w hw => va_Nw.same (NW.tab w hw) h (hN w hw)
theorem NW.warm {s U : State} (hW : s.WarmedH U.vm) (hN : NW s) : NW U := by
  intro w hw
  have h := hN w hw
  simp only [nestW, List.mem_cons, List.not_mem_nil, or_false] at hw
  rcases hw with rfl | rfl | rfl | rfl | rfl | rfl | rfl | rfl | rfl | rfl | rfl | rfl | rfl | rfl | rfl | rfl | rfl | rfl | rfl | rfl | rfl <;> first | exact va_Nw.warmF hW h | exact va_Nw.warmM hW h
theorem nwf_X3_66 {U : State} (h : NW U) : va_Nw (.fieldLinkNest "SquareGears" 66 "SquareGears$Gears" "amplitudes" "[I" "SquareGears") U := h _ (List.mem_of_getElem? (i := 0) rfl)
theorem nwf_X3_93 {U : State} (h : NW U) : va_Nw (.fieldLinkNest "SquareGears" 93 "SquareGears$Gears" "pattern" "[I" "SquareGears") U := h _ (List.mem_of_getElem? (i := 1) rfl)
theorem nwf_X3_69 {U : State} (h : NW U) : va_Nw (.fieldLinkNest "SquareGears" 69 "SquareGears$Gears" "lostWheels" "I" "SquareGears") U := h _ (List.mem_of_getElem? (i := 2) rfl)
theorem nwf_X3_108 {U : State} (h : NW U) : va_Nw (.fieldLinkNest "SquareGears" 108 "SquareGears$Gears" "changedByFits" "I" "SquareGears") U := h _ (List.mem_of_getElem? (i := 3) rfl)
theorem nwf_X3_157 {U : State} (h : NW U) : va_Nw (.fieldLinkNest "SquareGears" 157 "SquareGears$SavedGears" "count" "I" "SquareGears") U := h _ (List.mem_of_getElem? (i := 4) rfl)
theorem nwm_X3_11 {U : State} (h : NW U) : va_Nw (.methodLinkNest "SquareGears" 11 ⟨"SquareGears$Gears", "<init>", "()V"⟩ "SquareGears") U := h _ (List.mem_of_getElem? (i := 5) rfl)
theorem nwm_X3_26 {U : State} (h : NW U) : va_Nw (.methodLinkNest "SquareGears" 26 ⟨"SquareGears$SavedGears", "<init>", "()V"⟩ "SquareGears") U := h _ (List.mem_of_getElem? (i := 6) rfl)
theorem nwm_X1_22 {U : State} (h : NW U) : va_Nw (.methodLinkNest "SquareGears$SavedGears" 22 ⟨"SquareGears$Gears", "<init>", "()V"⟩ "SquareGears") U := h _ (List.mem_of_getElem? (i := 7) rfl)
theorem nwm_X3_33 {U : State} (h : NW U) : va_Nw (.methodLinkNest "SquareGears" 33 ⟨"SquareGears$WheelText", "<init>", "()V"⟩ "SquareGears") U := h _ (List.mem_of_getElem? (i := 8) rfl)
theorem nwm_X3_144 {U : State} (h : NW U) : va_Nw (.methodLinkNest "SquareGears" 144 ⟨"SquareGears$Gears", "drawingWheels", "()I"⟩ "SquareGears") U := h _ (List.mem_of_getElem? (i := 9) rfl)
theorem nwm_X3_96 {U : State} (h : NW U) : va_Nw (.methodLinkNest "SquareGears" 96 ⟨"SquareGears$Gears", "traceAt", "(I)I"⟩ "SquareGears") U := h _ (List.mem_of_getElem? (i := 10) rfl)
theorem nwm_X0_39 {U : State} (h : NW U) : va_Nw (.methodLinkNest "SquareGears$Gears" 39 ⟨"SquareGears", "wave", "(II)I"⟩ "SquareGears") U := h _ (List.mem_of_getElem? (i := 11) rfl)
theorem nwm_X3_185 {U : State} (h : NW U) : va_Nw (.methodLinkNest "SquareGears" 185 ⟨"SquareGears$Gears", "differenceAt", "(I)I"⟩ "SquareGears") U := h _ (List.mem_of_getElem? (i := 12) rfl)
theorem nwm_X3_251 {U : State} (h : NW U) : va_Nw (.methodLinkNest "SquareGears" 251 ⟨"SquareGears$Gears", "jumpAt", "(I)I"⟩ "SquareGears") U := h _ (List.mem_of_getElem? (i := 13) rfl)
theorem nwm_X3_201 {U : State} (h : NW U) : va_Nw (.methodLinkNest "SquareGears" 201 ⟨"SquareGears$Gears", "drawnAmplitude", "(I)I"⟩ "SquareGears") U := h _ (List.mem_of_getElem? (i := 14) rfl)
theorem nwm_X3_162 {U : State} (h : NW U) : va_Nw (.methodLinkNest "SquareGears" 162 ⟨"SquareGears$SavedGears", "popInto", "(LSquareGears$Gears;)V"⟩ "SquareGears") U := h _ (List.mem_of_getElem? (i := 15) rfl)
theorem nwm_X1_23 {U : State} (h : NW U) : va_Nw (.methodLinkNest "SquareGears$SavedGears" 23 ⟨"SquareGears$Gears", "takeFrom", "(LSquareGears$Gears;)V"⟩ "SquareGears") U := h _ (List.mem_of_getElem? (i := 16) rfl)
theorem nwm_X3_72 {U : State} (h : NW U) : va_Nw (.methodLinkNest "SquareGears" 72 ⟨"SquareGears$Gears", "isLost", "(I)Z"⟩ "SquareGears") U := h _ (List.mem_of_getElem? (i := 17) rfl)
theorem nwm_X3_99 {U : State} (h : NW U) : va_Nw (.methodLinkNest "SquareGears" 99 ⟨"SquareGears$Gears", "patternAmplitude", "(I)I"⟩ "SquareGears") U := h _ (List.mem_of_getElem? (i := 18) rfl)
theorem nwm_X3_269 {U : State} (h : NW U) : va_Nw (.methodLinkNest "SquareGears" 269 ⟨"SquareGears$Gears", "errorWithout", "(I)I"⟩ "SquareGears") U := h _ (List.mem_of_getElem? (i := 19) rfl)
theorem nwm_X3_62 {U : State} (h : NW U) : va_Nw (.methodLinkNest "SquareGears" 62 ⟨"SquareGears$SavedGears", "push", "(LSquareGears$Gears;)V"⟩ "SquareGears") U := h _ (List.mem_of_getElem? (i := 20) rfl)
theorem nw_use {w : Cond} {A : Array Value} {U : State} (hw : w.onTables = true) (h : va_Nw w U) : w.before A U = true := va_Nw.use hw h
/-- a class world, a reference's world -/
def CR (D : va_G) (T : Nat → ClassId) (ad : Nat → Nat) (I : Nat → Int32) (R : Nat → Nat → Int32) (U : State) : Prop := va_P D vwCl (cw T ad I R) U.heap ∧ va_K D vwCl (tysT T) U ∧ NW U
def CB (D : va_G) (T : Nat → ClassId) (ad : Nat → Nat) (I : Nat → Int32) (R : Nat → Nat → Int32) (sz : Nat) (U : State) : Prop := U.heap.size = sz ∧ CR D T ad I R U
def GR (D : va_G) (T : Nat → ClassId) (ad : Nat → Nat) (I : Nat → Int32) (R : Nat → Nat → Int32) (U : State) : Prop := va_P D vwCl (gw T ad I R) U.heap ∧ va_K D vwCl (tysT T) U
def GB (D : va_G) (T : Nat → ClassId) (ad : Nat → Nat) (I : Nat → Int32) (R : Nat → Nat → Int32) (sz : Nat) (U : State) : Prop := U.heap.size = sz ∧ GR D T ad I R U
theorem CR.blind {D : va_G} {T : Nat → ClassId} {ad : Nat → Nat} {I : Nat → Int32} {R : Nat → Nat → Int32} {av : List Value} : FrameBlind (va_Pc av (CR D T ad I R)) := fun a U g mk q => ⟨q.1, q.2.1, va_K.moved (u := U) (U := U.calling g mk a) (Vm.Alike.refl U.vm) q.2.2.1, NW.same (u := U) (U := U.calling g mk a) rfl q.2.2.2⟩
theorem CB.blind {D : va_G} {T : Nat → ClassId} {ad : Nat → Nat} {I : Nat → Int32} {R : Nat → Nat → Int32} {sz : Nat} {av : List Value} : FrameBlind (va_Pc av (CB D T ad I R sz)) := fun a U g mk q => ⟨q.1, q.2.1, q.2.2.1, va_K.moved (u := U) (U := U.calling g mk a) (Vm.Alike.refl U.vm) q.2.2.2.1, NW.same (u := U) (U := U.calling g mk a) rfl q.2.2.2.2⟩
theorem GB.blind {D : va_G} {T : Nat → ClassId} {ad : Nat → Nat} {I : Nat → Int32} {R : Nat → Nat → Int32} {sz : Nat} {av : List Value} : FrameBlind (va_Pc av (GB D T ad I R sz)) := fun a U g mk q => ⟨q.1, q.2.1, q.2.2.1, va_K.moved (u := U) (U := U.calling g mk a) (Vm.Alike.refl U.vm) q.2.2.2⟩
theorem GB.pre {D : va_G} {T : Nat → ClassId} {ad : Nat → Nat} {I : Nat → Int32} {R : Nat → Nat → Int32} {s : State} {H : Heap} (hP : va_P D vwCl (gw T ad I R) H) (hK : va_K D vwCl (tysT T) s) {av : List Value} {v : Array Value} (hv : v = av.toArray) : ∀ U : State, U.heap = H → s.WarmedH U.vm → va_Pc av (GB D T ad I R H.size) v U := fun U hU hW => ⟨hv, by rw [hU], by rw [hU]; exact hP, va_K.moved hW.alike hK⟩
theorem pc_blind {av : List Value} : FrameBlind (va_Pc av (fun _ => True)) := fun _ _ _ _ q => q
theorem CR.pre {D : va_G} {T : Nat → ClassId} {ad : Nat → Nat} {I : Nat → Int32} {R : Nat → Nat → Int32} {s : State} {H : Heap} (hP : va_P D vwCl (cw T ad I R) H) (hK : va_K D vwCl (tysT T) s) (hN : NW s) {av : List Value} {v : Array Value} (hv : v = av.toArray) : ∀ U : State, U.heap = H → s.WarmedH U.vm → va_Pc av (CR D T ad I R) v U := fun U hU hW => ⟨hv, by rw [hU]; exact hP, va_K.moved hW.alike hK, NW.warm hW hN⟩
theorem CB.pre {D : va_G} {T : Nat → ClassId} {ad : Nat → Nat} {I : Nat → Int32} {R : Nat → Nat → Int32} {s : State} {H : Heap} (hP : va_P D vwCl (cw T ad I R) H) (hK : va_K D vwCl (tysT T) s) (hN : NW s) {av : List Value} {v : Array Value} (hv : v = av.toArray) : ∀ U : State, U.heap = H → s.WarmedH U.vm → va_Pc av (CB D T ad I R H.size) v U := fun U hU hW => ⟨hv, by rw [hU], by rw [hU]; exact hP, va_K.moved hW.alike hK, NW.warm hW hN⟩
/-- what a reading method answers: F, and nothing old has changed -/
abbrev RqI (F : Int32) : Array Value → State → Outcome → State → Prop := va_Qi (fun r (_ : Unit) => r = F) (fun _ _ => True) (fun _ => False)
abbrev RqL (F : Int64) : Array Value → State → Outcome → State → Prop := va_Ql (fun r (_ : Unit) => r = F) (fun _ _ => True) (fun _ => False)
abbrev RqD (F : UInt64) : Array Value → State → Outcome → State → Prop := va_Qd (fun r (_ : Unit) => r = F) (fun _ _ => True) (fun _ => False)
section
variable {p : Program} {l : Launch} {e : Env} {R : Room} {s : State} {m : MethodId} {args : Array Value} {below : List Frame} {meth : Method} {c : Code} {H : Heap} {locs : List Loc} {cells slots : Nat} {Q : State → Prop}
variable {mc ms : Nat} {free : Addr → Prop} {A0 A1 : Nat → Prop} {H0 : Heap} {a : Array Value} {pc : Nat} {ls : Array Slot} {st0 rest : List Value} {cc : ByteArray}
variable {D : va_G} {cl : List vw_C} {tys : List (ClassId × FieldType)} {ws w1 : va_W}
theorem cx_keep {H1 : Heap} (hP : va_P D cl ws H) (hk : ∀ q : Nat, q < H.size → ¬ False → H1[q]? = H[q]?) : va_P D cl ws H1 := hP.kept fun k q hq => hk q.1 (hP k q hq).lt (fun h => h)
/-- behind a reading call -/
theorem cx_ri {F : Int32} (hr : va_Run p l e R s m args below meth c H locs cells slots 0 0 (F0 m pc ls st0) rest (RqI F a) (fun _ => False)) (hS : va_S A0 H0 H locs) (hP : va_P D cl ws H)
    (kk : ∀ (H1 : Heap) (locs1 : List Loc), va_P D cl ws H1 → va_S A0 H0 H1 locs1 → W p l e R s m args below meth c H1 locs1 cells slots Q (F0 m (pc + 3) ls (.int F :: rest))) : W p l e R s m args below meth c H locs cells slots Q (F0 m pc ls st0) :=
  va_calli hr hS (fun _ _ h => h.elim) (fun _ h => h.elim) (fun r _ t H1 locs1 _ _ hw _ _ hk hS1 => by
    have e : r = F := hw
    subst e
    exact kk H1 locs1 (cx_keep hP hk) hS1)
theorem cx_rl {F : Int64} (hr : va_Run p l e R s m args below meth c H locs cells slots 0 0 (F0 m pc ls st0) rest (RqL F a) (fun _ => False)) (hS : va_S A0 H0 H locs) (hP : va_P D cl ws H)
    (kk : ∀ (H1 : Heap) (locs1 : List Loc), va_P D cl ws H1 → va_S A0 H0 H1 locs1 → W p l e R s m args below meth c H1 locs1 cells slots Q (F0 m (pc + 3) ls (.long F :: rest))) : W p l e R s m args below meth c H locs cells slots Q (F0 m pc ls st0) :=
  va_calll hr hS (fun _ _ h => h.elim) (fun _ h => h.elim) (fun r _ t H1 locs1 _ _ hw _ _ hk hS1 => by
    have e : r = F := hw
    subst e
    exact kk H1 locs1 (cx_keep hP hk) hS1)
theorem cx_rd {F : UInt64} (hr : va_Run p l e R s m args below meth c H locs cells slots 0 0 (F0 m pc ls st0) rest (RqD F a) (fun _ => False)) (hS : va_S A0 H0 H locs) (hP : va_P D cl ws H)
    (kk : ∀ (H1 : Heap) (locs1 : List Loc), va_P D cl ws H1 → va_S A0 H0 H1 locs1 → W p l e R s m args below meth c H1 locs1 cells slots Q (F0 m (pc + 3) ls (.double F :: rest))) : W p l e R s m args below meth c H locs cells slots Q (F0 m pc ls st0) :=
  va_calld hr hS (fun _ _ h => h.elim) (fun _ h => h.elim) (fun r _ t H1 locs1 _ _ hw _ _ hk hS1 => by
    have e : r = F := hw
    subst e
    exact kk H1 locs1 (cx_keep hP hk) hS1)
/-- behind a writing call: u, what it leaves open -/
theorem cx_wi {S : Type} {F : S → Int32} {Pu : S → Prop} {w1 : S → va_W} (hr : va_Run p l e R s m args below meth c H locs cells slots mc ms (F0 m pc ls st0) rest (va_Qi (fun r (u : S) => r = F u ∧ Pu u) (fun u t => va_P D cl (w1 u) t.heap) A1 a) free) (hS : va_S A0 H0 H locs) (hA : ∀ q, A1 q → A0 q) (hf : ∀ q, free q → A0 q)
    (kk : ∀ (u : S) (H1 : Heap) (locs1 : List Loc), Pu u → va_P D cl (w1 u) H1 → (∀ q : Nat, q < H.size → ¬ A1 q → H1[q]? = H[q]?) → va_S A0 H0 H1 locs1 → W p l e R s m args below meth c H1 locs1 (cells + mc) (slots + ms) Q (F0 m (pc + 3) ls (.int (F u) :: rest))) : W p l e R s m args below meth c H locs cells slots Q (F0 m pc ls st0) :=
  va_calli hr hS (fun q _ h => hA q h) hf (fun r u t H1 locs1 ht _ hw hB _ hk hS1 => by
    obtain ⟨e, hu⟩ := hw
    subst e
    exact kk u H1 locs1 hu (by rw [← ht]; exact hB) hk hS1)
theorem cx_wl {S : Type} {F : S → Int64} {Pu : S → Prop} {w1 : S → va_W} (hr : va_Run p l e R s m args below meth c H locs cells slots mc ms (F0 m pc ls st0) rest (va_Ql (fun r (u : S) => r = F u ∧ Pu u) (fun u t => va_P D cl (w1 u) t.heap) A1 a) free) (hS : va_S A0 H0 H locs) (hA : ∀ q, A1 q → A0 q) (hf : ∀ q, free q → A0 q)
    (kk : ∀ (u : S) (H1 : Heap) (locs1 : List Loc), Pu u → va_P D cl (w1 u) H1 → (∀ q : Nat, q < H.size → ¬ A1 q → H1[q]? = H[q]?) → va_S A0 H0 H1 locs1 → W p l e R s m args below meth c H1 locs1 (cells + mc) (slots + ms) Q (F0 m (pc + 3) ls (.long (F u) :: rest))) : W p l e R s m args below meth c H locs cells slots Q (F0 m pc ls st0) :=
  va_calll hr hS (fun q _ h => hA q h) hf (fun r u t H1 locs1 ht _ hw hB _ hk hS1 => by
    obtain ⟨e, hu⟩ := hw
    subst e
    exact kk u H1 locs1 hu (by rw [← ht]; exact hB) hk hS1)
theorem cx_wv {S : Type} {Pu : S → Prop} {w1 : S → va_W} (hr : va_Run p l e R s m args below meth c H locs cells slots mc ms (F0 m pc ls st0) rest (va_Qv Pu (fun (u : S) t => va_P D cl (w1 u) t.heap) A1 a) free) (hS : va_S A0 H0 H locs) (hA : ∀ q, A1 q → A0 q) (hf : ∀ q, free q → A0 q)
    (kk : ∀ (u : S) (H1 : Heap) (locs1 : List Loc), Pu u → va_P D cl (w1 u) H1 → (∀ q : Nat, q < H.size → ¬ A1 q → H1[q]? = H[q]?) → va_S A0 H0 H1 locs1 → W p l e R s m args below meth c H1 locs1 (cells + mc) (slots + ms) Q (F0 m (pc + 3) ls rest)) : W p l e R s m args below meth c H locs cells slots Q (F0 m pc ls st0) :=
  va_callv hr hS (fun q _ h => hA q h) hf (fun u t H1 locs1 ht _ hw hB _ hk hS1 => kk u H1 locs1 hw (by rw [← ht]; exact hB) hk hS1)
/-- a row's place is read by a number -/
theorem cx_iald (hexec : p.tables.exec = Jvm.exec) (hb : c.code = cc) (hK : va_K D cl tys s) (hP : va_P D cl ws H) (q0 t0 : Nat) {ax : Nat} {cA : ClassId} {n : Nat} {f : Nat → Int32} (ha : ws[q0]? = some (ax, .inl (cA, n, .inl f))) (ht : tys[t0]? = some (cA, .int)) {k : Nat} (hk : k < n) (hn : n < 2 ^ 31) (hdg : decode cc pc = .ok (.iaload, 1))
    (kk : W p l e R s m args below meth c H locs cells slots Q (F0 m (pc + 1) ls (.int (f k) :: rest))) : W p l e R s m args below meth c H locs cells slots Q (F0 m pc ls (.int (nI k) :: .ref ax :: rest)) := by
  refine va_iald hexec hb hK hP q0 t0 ha ht (vp_in_nI hk hn) hdg ?_
  rw [nI_clamp (Nat.lt_trans hk hn)]
  exact kk
theorem cx_zald (hexec : p.tables.exec = Jvm.exec) (hb : c.code = cc) (hK : va_K D cl tys s) (hP : va_P D cl ws H) (q0 t0 : Nat) {ax : Nat} {cA : ClassId} {n : Nat} {f : Nat → Int32} (ha : ws[q0]? = some (ax, .inl (cA, n, .inl f))) (ht : tys[t0]? = some (cA, .boolean)) {k : Nat} (hk : k < n) (hn : n < 2 ^ 31) (hdg : decode cc pc = .ok (.baload, 1))
    (kk : W p l e R s m args below meth c H locs cells slots Q (F0 m (pc + 1) ls (.int (f k) :: rest))) : W p l e R s m args below meth c H locs cells slots Q (F0 m pc ls (.int (nI k) :: .ref ax :: rest)) := by
  refine va_zald hexec hb hK hP q0 t0 ha ht (vp_in_nI hk hn) hdg ?_
  rw [nI_clamp (Nat.lt_trans hk hn)]
  exact kk
theorem cx_cald (hexec : p.tables.exec = Jvm.exec) (hb : c.code = cc) (hK : va_K D cl tys s) (hP : va_P D cl ws H) (q0 t0 : Nat) {ax : Nat} {cA : ClassId} {n : Nat} {f : Nat → Int32} (ha : ws[q0]? = some (ax, .inl (cA, n, .inl f))) (ht : tys[t0]? = some (cA, .char)) {k : Nat} (hk : k < n) (hn : n < 2 ^ 31) (hdg : decode cc pc = .ok (.caload, 1))
    (kk : W p l e R s m args below meth c H locs cells slots Q (F0 m (pc + 1) ls (.int (f k) :: rest))) : W p l e R s m args below meth c H locs cells slots Q (F0 m pc ls (.int (nI k) :: .ref ax :: rest)) := by
  refine va_cald hexec hb hK hP q0 t0 ha ht (vp_in_nI hk hn) hdg ?_
  rw [nI_clamp (Nat.lt_trans hk hn)]
  exact kk
theorem cx_aldq (hexec : p.tables.exec = Jvm.exec) (hb : c.code = cc) (hK : va_K D cl tys s) (hP : va_P D cl ws H) (q0 t0 : Nat) {ax : Nat} {cA : ClassId} {C : String} {n : Nat} {f : Nat → Option Nat} (ha : ws[q0]? = some (ax, .inl (cA, n, .inr (.inr (.inr (.inr f)))))) (ht : tys[t0]? = some (cA, .object C)) {k : Nat} (hk : k < n) (hn : n < 2 ^ 31) (hdg : decode cc pc = .ok (.aaload, 1)) {y : Nat} (hy : f k = some y)
    (kk : W p l e R s m args below meth c H locs cells slots Q (F0 m (pc + 1) ls (.ref y :: rest))) : W p l e R s m args below meth c H locs cells slots Q (F0 m pc ls (.int (nI k) :: .ref ax :: rest)) := by
  refine va_aldq hexec hb hK hP q0 t0 ha ht (vp_in_nI hk hn) hdg ?_
  rw [nI_clamp (Nat.lt_trans hk hn), hy]
  exact kk
theorem cx_iast (hexec : p.tables.exec = Jvm.exec) (hb : c.code = cc) (hK : va_K D cl tys s) (hP : va_P D cl ws H) (hD : va_D A0 ws) (hS : va_S A0 H0 H locs) (q0 t0 : Nat) {ax : Nat} {cA : ClassId} {n : Nat} {f : Nat → Int32} (ha : ws[q0]? = some (ax, .inl (cA, n, .inl f))) (ht : tys[t0]? = some (cA, .int)) {k : Nat} {x : Int32} (hk : k < n) (hn : n < 2 ^ 31) (hset : ws.set q0 (ax, .inl (cA, n, .inl (upd f k x))) = w1) (hdg : decode cc pc = .ok (.iastore, 1))
    (kk : ∀ (H1 : Heap) (locs1 : List Loc), va_P D cl w1 H1 → va_S A0 H0 H1 locs1 → W p l e R s m args below meth c H1 locs1 cells slots Q (F0 m (pc + 1) ls rest)) : W p l e R s m args below meth c H locs cells slots Q (F0 m pc ls (.int x :: .int (nI k) :: .ref ax :: rest)) := by
  refine va_iast hexec hb hK hP hD hS q0 t0 ha ht (vp_in_nI hk hn) hdg (fun H1 locs1 hP1 _ hS1 => ?_)
  rw [nI_clamp (Nat.lt_trans hk hn), hset] at hP1
  exact kk H1 locs1 hP1 hS1
theorem cx_zast (hexec : p.tables.exec = Jvm.exec) (hb : c.code = cc) (hK : va_K D cl tys s) (hP : va_P D cl ws H) (hD : va_D A0 ws) (hS : va_S A0 H0 H locs) (q0 t0 : Nat) {ax : Nat} {cA : ClassId} {n : Nat} {f : Nat → Int32} (ha : ws[q0]? = some (ax, .inl (cA, n, .inl f))) (ht : tys[t0]? = some (cA, .boolean)) {k : Nat} {x : Int32} (hk : k < n) (hn : n < 2 ^ 31) (hx9 : vp_nar .boolean x = x) (hset : ws.set q0 (ax, .inl (cA, n, .inl (upd f k x))) = w1) (hdg : decode cc pc = .ok (.bastore, 1))
    (kk : ∀ (H1 : Heap) (locs1 : List Loc), va_P D cl w1 H1 → va_S A0 H0 H1 locs1 → W p l e R s m args below meth c H1 locs1 cells slots Q (F0 m (pc + 1) ls rest)) : W p l e R s m args below meth c H locs cells slots Q (F0 m pc ls (.int x :: .int (nI k) :: .ref ax :: rest)) := by
  refine va_zast hexec hb hK hP hD hS q0 t0 ha ht (vp_in_nI hk hn) hdg (fun H1 locs1 hP1 _ hS1 => ?_)
  rw [nI_clamp (Nat.lt_trans hk hn), hx9, hset] at hP1
  exact kk H1 locs1 hP1 hS1
theorem cx_cast (hexec : p.tables.exec = Jvm.exec) (hb : c.code = cc) (hK : va_K D cl tys s) (hP : va_P D cl ws H) (hD : va_D A0 ws) (hS : va_S A0 H0 H locs) (q0 t0 : Nat) {ax : Nat} {cA : ClassId} {n : Nat} {f : Nat → Int32} (ha : ws[q0]? = some (ax, .inl (cA, n, .inl f))) (ht : tys[t0]? = some (cA, .char)) {k : Nat} {x : Int32} (hk : k < n) (hn : n < 2 ^ 31) (hx9 : vp_nar .char x = x) (hset : ws.set q0 (ax, .inl (cA, n, .inl (upd f k x))) = w1) (hdg : decode cc pc = .ok (.castore, 1))
    (kk : ∀ (H1 : Heap) (locs1 : List Loc), va_P D cl w1 H1 → va_S A0 H0 H1 locs1 → W p l e R s m args below meth c H1 locs1 cells slots Q (F0 m (pc + 1) ls rest)) : W p l e R s m args below meth c H locs cells slots Q (F0 m pc ls (.int x :: .int (nI k) :: .ref ax :: rest)) := by
  refine va_cast hexec hb hK hP hD hS q0 t0 ha ht (vp_in_nI hk hn) hdg (fun H1 locs1 hP1 _ hS1 => ?_)
  rw [nI_clamp (Nat.lt_trans hk hn), hx9, hset] at hP1
  exact kk H1 locs1 hP1 hS1
/-- eight places are copied -/
theorem cx_copy (hexec : p.tables.exec = Jvm.exec) (hb : c.code = cc) (hml : c.maxLocals = ls.size) {own : String} {index : Nat} (hown : s.vm.findClass own = some m.cls) (hlink : (Cond.methodLink own index arraycopyName).before args s = true) (hnat : (Cond.native arraycopyName).before args s = true) (hstat : (Cond.static arraycopyName).before args s = true) (hini : (Cond.initialized "java/lang/System").before args s = true)
    (hK : va_K D cl tys s) (hP : va_P D cl ws H) (hD : va_D A0 ws) (hS : va_S A0 H0 H locs) (q0 q1 t0 : Nat) {a0 a1 : Nat} {c0 : ClassId} {f g : Nat → Int32} (ha0 : ws[q0]? = some (a0, .inl (c0, 8, .inl f))) (ha1 : ws[q1]? = some (a1, .inl (c0, 8, .inl g))) (ht0 : tys[t0]? = some (c0, .int)) (hset : ws.set q1 (a1, .inl (c0, 8, .inl f)) = w1)
    (hframes : 1 ≤ R.frames) (hlocals : (rest.map fun v => v.category).sum + (nativeFrameWords "java/lang/System" "arraycopy" 5 + 11) ≤ R.locals) (hdg : decode cc pc = .ok (.invokestatic index, 3))
    (kk : ∀ (H1 : Heap) (locs1 : List Loc), va_P D cl w1 H1 → va_S A0 H0 H1 locs1 → W p l e R s m args below meth c H1 locs1 cells slots Q (F0 m (pc + 3) ls rest)) : W p l e R s m args below meth c H locs cells slots Q (F0 m pc ls (.int 8 :: .int 0 :: .ref a1 :: .int 0 :: .ref a0 :: rest)) := by
  refine va_copyi hexec hb hml hown hlink hnat hstat hini hK hP hD hS q0 q1 t0 t0 ha0 ha1 ht0 ht0 rfl (sp := 0) (dp := 0) (n := 8) (by decide) (by decide) (by decide) (by decide) (by decide) (fun i hi => rfl) hframes hlocals hdg (fun H1 locs1 hP1 _ hS1 => ?_)
  refine kk H1 locs1 ?_ hS1
  subst hset
  intro i q hq
  rw [List.getElem?_set] at hq
  split at hq
  · rename_i h
    subst h
    split at hq
    · cases hq
      have h1 := hP1 q1 (a1, .inl (c0, 8, .inl (va_cpy f g (0 : Int32).toNatClampNeg (0 : Int32).toNatClampNeg (8 : Int32).toNatClampNeg))) (by rw [List.getElem?_set]; simp [*])
      show H1[a1]? = some (vp_cell c0 (8, .inl f))
      rw [← cell_congr (f := va_cpy f g (0 : Int32).toNatClampNeg (0 : Int32).toNatClampNeg (8 : Int32).toNatClampNeg) (fun j hj => sb_cpy0 (n := 8) hj)]
      exact h1
    · cases hq
  · rename_i h
    exact hP1 i q (by rw [List.getElem?_set, if_neg h]; exact hq)
/-- a number of an object is written -/
theorem cx_put {own ref C : String} {T : u_T} {N ci index : Nat} {Ts : List Cond} (hexec : p.tables.exec = Jvm.exec) (hb : c.code = cc) (hts : ∀ w ∈ Ts, w.before args s = true) (hin : ∀ w ∈ u_ws C T N, w ∈ Ts) (ty0 : Nat → FieldType) (hty : ∀ k, k < N → parseFieldDescriptor (T k).2.2.1 = some (ty0 k)) (hnm : ∀ a, a < N → ∀ b, b < N → a ≠ b → (T a).2.1 ≠ (T b).2.1) (hown : s.vm.findClass own = some m.cls) (hK : va_K D cl tys s) (hP : va_P D cl ws H) (hD : va_D A0 ws) (hS0 : va_S A0 H0 H locs) (q0 : Nat) {ax : Nat} {fs : List Value} (he : ws[q0]? = some (ax, .inr (ci, fs))) (hc : cl[ci]? = some (C, T, N)) (k : Nat) (hk : k < N) (hlink : (Cond.fieldLink own index ref (T k).2.1 (T k).2.2.1).before args s = true) (hsame : ∀ x, s.fieldFound? (T k).1 (T k).2.1 (T k).2.2.1 = some x → s.fieldFound? ref (T k).2.1 (T k).2.2.1 = some x) (hfin : (T k).2.2.2 = false) {v : Int32} {ty : FieldType} (hd : parseFieldDescriptor (T k).2.2.1 = some ty) (hn : narrow ty (.int v) = .int v) (hfit : fits ty (.int v) = true) (hl : k < fs.length) (hset : ws.set q0 (ax, .inr (ci, fs.set k (.int v))) = w1)
    (hdg : decode cc pc = .ok (.putfield index, 3)) (kk : ∀ (H1 : Heap) (locs1 : List Loc), va_P D cl w1 H1 → va_S A0 H0 H1 locs1 → W p l e R s m args below meth c H1 locs1 cells slots Q (F0 m (pc + 3) ls rest)) : W p l e R s m args below meth c H locs cells slots Q (F0 m pc ls (.int v :: .ref ax :: rest)) := by
  refine va_put hexec hb hts hin ty0 hty hnm hown hK hP hD hS0 q0 he hc k hk hlink hsame hfin hd hn hfit hl hdg (fun H1 locs1 hP1 _ hS1 => ?_)
  rw [hset] at hP1
  exact kk H1 locs1 hP1 hS1
theorem cx_putN {own ref C host : String} {T : u_T} {N ci index : Nat} {Ts : List Cond} (hexec : p.tables.exec = Jvm.exec) (hb : c.code = cc) (hts : ∀ w ∈ Ts, w.before args s = true) (hin : ∀ w ∈ u_ws C T N, w ∈ Ts) (ty0 : Nat → FieldType) (hty : ∀ k, k < N → parseFieldDescriptor (T k).2.2.1 = some (ty0 k)) (hnm : ∀ a, a < N → ∀ b, b < N → a ≠ b → (T a).2.1 ≠ (T b).2.1) (hown : s.vm.findClass own = some m.cls) (hK : va_K D cl tys s) (hP : va_P D cl ws H) (hD : va_D A0 ws) (hS0 : va_S A0 H0 H locs) (q0 : Nat) {ax : Nat} {fs : List Value} (he : ws[q0]? = some (ax, .inr (ci, fs))) (hc : cl[ci]? = some (C, T, N)) (k : Nat) (hk : k < N) (hlink : (Cond.fieldLinkNest own index ref (T k).2.1 (T k).2.2.1 host).before args s = true) (hsame : ∀ x, s.fieldFound? (T k).1 (T k).2.1 (T k).2.2.1 = some x → s.fieldFound? ref (T k).2.1 (T k).2.2.1 = some x) (hfin : (T k).2.2.2 = false) {v : Int32} {ty : FieldType} (hd : parseFieldDescriptor (T k).2.2.1 = some ty) (hn : narrow ty (.int v) = .int v) (hfit : fits ty (.int v) = true) (hl : k < fs.length) (hset : ws.set q0 (ax, .inr (ci, fs.set k (.int v))) = w1)
    (hdg : decode cc pc = .ok (.putfield index, 3)) (kk : ∀ (H1 : Heap) (locs1 : List Loc), va_P D cl w1 H1 → va_S A0 H0 H1 locs1 → W p l e R s m args below meth c H1 locs1 cells slots Q (F0 m (pc + 3) ls rest)) : W p l e R s m args below meth c H locs cells slots Q (F0 m pc ls (.int v :: .ref ax :: rest)) := by
  refine va_putN hexec hb hts hin ty0 hty hnm hown hK hP hD hS0 q0 he hc k hk hlink hsame hfin hd hn hfit hl hdg (fun H1 locs1 hP1 _ hS1 => ?_)
  rw [hset] at hP1
  exact kk H1 locs1 hP1 hS1
/-- a method of a class some of whose methods the machine has rows for, not this one -/
theorem metF_ofW {y : MethodName} {ws ws' : List Cond} {rm : Room} {Pc : Array Value → State → Prop} {Qc : Array Value → State → Outcome → State → Prop} {maxL : Nat} {ret : Option FieldType}
    (hy : plainFor y = true) (hw : ws = Cond.code y cc maxL ret :: ws')
    (body : ∀ p e s m args below meth c s₁, BodyLoose p l y (headSpec ws rm) cc maxL ret e s m args below meth c s₁ → c.maxLocals = maxL → Pc args s →
      W p l e (headSpec ws rm).room s m args below meth c s.heap [] 0 0 (MQ below Qc args s mc ms free) (entryFrame m args maxL)) : Met l y ws rm Pc Qc mc ms free := by
  refine MetFree.of_bodySF (code := cc) (maxLocals := maxL) (ret := ret) hy ?_ ?_
  · intro args s m h hn
    obtain ⟨meth, c, h1, h2, h3, h4, h5, h6, -, -⟩ := Cond.code_spec hn (atoms_spec (ws := ws) h _ (by rw [hw]; exact List.mem_cons_self))
    exact ⟨meth, c, h1, h2, h3, h4, h5, h6⟩
  · intro p e s m args below meth c s₁ B hml hP _
    have hh0 : s₁.heap = s.heap := by rw [B.state]; rfl
    obtain ⟨t, a1, o, b1, b2, b3⟩ := body p e s m args below meth c s₁ B hml hP s₁ hh0 (Stand.of_body B)
    exact ⟨t, o, a1, b1, b2, ⟨b3.1, b3.2⟩⟩
/-- the value on top, by another name -/
theorem cx_top {x y : Int32} (h : x = y) (k : W p l e R s m args below meth c H locs cells slots Q (F0 m pc ls (.int y :: rest))) : W p l e R s m args below meth c H locs cells slots Q (F0 m pc ls (.int x :: rest)) := by rw [h]; exact k
theorem cx_topl {x y : Int64} (h : x = y) (k : W p l e R s m args below meth c H locs cells slots Q (F0 m pc ls (.long y :: rest))) : W p l e R s m args below meth c H locs cells slots Q (F0 m pc ls (.long x :: rest)) := by rw [h]; exact k
/-- an array of the world, told anew -/
theorem cx_re {H1 : Heap} {k ax : Nat} {cA : ClassId} {n : Nat} {f g : Nat → Int32} (hP : va_P D cl ws H1) (ha : ws[k]? = some (ax, .inl (cA, n, .inl f))) (hfg : ∀ j, j < n → f j = g j) (hset : ws.set k (ax, .inl (cA, n, .inl g)) = w1) : va_P D cl w1 H1 := by
  subst hset
  intro i q hq
  rw [List.getElem?_set] at hq
  split at hq
  · rename_i h
    subst h
    split at hq
    · cases hq
      have h1 := hP k _ ha
      show H1[ax]? = some (vp_cell cA (n, .inl g))
      rw [← cell_congr hfg]
      exact h1
    · cases hq
  · exact hP i q hq
end

def adp (ad : Nat → Nat) (a b : Nat) : Nat → Nat := fun k => if k < 3 then ad (a + k) else ad (b + (k - 3))
theorem adp_AD {ad : Nat → Nat} {a b : Nat} (hAD : AD 34 ad) (ha : a + 3 ≤ 34) (hb : b + 3 ≤ 34) (hd : a + 3 ≤ b ∨ b + 3 ≤ a) : AD 6 (adp ad a b) := by
  intro i j hi hj e
  unfold adp at e
  split at e <;> split at e <;> have e2 := hAD _ _ (by omega) (by omega) e <;> omega
theorem adp_34 {ad : Nat → Nat} {a b sz : Nat} (ha : a + 3 ≤ 34) (hb : b + 3 ≤ 34) : ∀ q, cA 6 (adp ad a b) sz q → cA 34 ad sz q := by
  intro q h
  rcases h with ⟨k, hk, rfl⟩ | h
  · unfold adp
    split
    · exact cA_in (by omega)
    · exact cA_in (by omega)
  · exact Or.inr h
def tkI (I : Nat → Int32) (g h : Nat) : Nat → Int32 := upd (upd I (4 + 2 * g) (I (4 + 2 * h))) (5 + 2 * g) (I (5 + 2 * h))
def tkR (R : Nat → Nat → Int32) (g h : Nat) : Nat → Nat → Int32 := updR (updR R (2 * g) (R (2 * h))) (1 + 2 * g) (R (1 + 2 * h))
def gwI (I : Nat → Int32) (g h : Nat) : Nat → Int32 := fun k => if k = 0 then I (4 + 2 * g) else if k = 1 then I (5 + 2 * g) else if k = 2 then I (4 + 2 * h) else I (5 + 2 * h)
def gwR (R : Nat → Nat → Int32) (g h : Nat) : Nat → Nat → Int32 := fun k => if k = 0 then R (2 * g) else if k = 1 then R (1 + 2 * g) else if k = 2 then R (2 * h) else R (1 + 2 * h)
theorem gw_cA {T : Nat → ClassId} {ad : Nat → Nat} {I : Nat → Int32} {R : Nat → Nat → Int32} {sz q : Nat} (h : cA 6 ad sz q) : va_A (gw T ad I R) sz q := by
  rcases h with ⟨k, hk, rfl⟩ | h
  · have hf : ((gw T ad I R).map Prod.fst)[k]? = some (ad k) := by rw [gw_fst, List.getElem?_map, List.getElem?_range hk]; rfl
    rw [List.getElem?_map] at hf
    cases hg : (gw T ad I R)[k]? with
    | none => rw [hg] at hf; cases hf
    | some x =>
      rw [hg] at hf
      have e : x.1 = ad k := Option.some.inj hf
      exact Or.inl ⟨k, x.2, by rw [hg, ← e]⟩
  · exact Or.inr h
section
variable {D : va_G} {T : Nat → ClassId} {ad : Nat → Nat} {I : Nat → Int32} {R : Nat → Nat → Int32} {H H1 : Heap}
theorem tk_of_1_0 (hP : va_P D vwCl (cw T ad I R) H) : va_P D vwCl (gw T (adp ad 10 1) (gwI I 1 0) (gwR R 1 0)) H := hP.sub [10, 11, 12, 1, 2, 3] rfl
theorem tk_1_0 (hAD : AD 34 ad) (hP : va_P D vwCl (cw T ad I R) H) (hk : ∀ q : Nat, q < H.size → ¬ cA 6 (adp ad 10 1) H.size q → H1[q]? = H[q]?) (hP1 : va_P D vwCl (gw T (adp ad 10 1) (upd (upd (gwI I 1 0) 0 (gwI I 1 0 2)) 1 (gwI I 1 0 3)) (updR (updR (gwR R 1 0) 0 (gwR R 1 0 2)) 1 (gwR R 1 0 3))) H1) : va_P D vwCl (cw T ad (tkI I 1 0) (tkR R 1 0)) H1 := by
  have hD : va_D (fun _ => True) (cw T ad I R) := cw_D hAD (fun _ _ => trivial)
  obtain ⟨h2, -⟩ := va_join (wr := [(ad 0, .inr (3, [.ref (ad 1), .ref (ad 4), .int (I 0), .ref (ad 5), .ref (ad 7), .ref (ad 9)])), (ad 4, .inl (T 3, 2, .inr (.inr (.inr (.inr (fun j => some (ad (28 + 3 * j)))))))), (ad 5, .inr (1, [.ref (ad 6), .int (I 1), .int (I 2)])), (ad 6, .inl (T 3, 6, .inr (.inr (.inr (.inr (fun j => some (ad (10 + 3 * j)))))))), (ad 7, .inr (2, [.ref (ad 8), .int (I 3)])), (ad 8, .inl (T 0, 60, .inl (R 18))), (ad 9, .inl (T 1, 8, .inl (R 19))), (ad 13, .inr (0, [.ref (ad 14), .ref (ad 15), .int (I 8), .int (I 9)])), (ad 14, .inl (T 1, 8, .inl (R 4))), (ad 15, .inl (T 1, 8, .inl (R 5))), (ad 16, .inr (0, [.ref (ad 17), .ref (ad 18), .int (I 10), .int (I 11)])), (ad 17, .inl (T 1, 8, .inl (R 6))), (ad 18, .inl (T 1, 8, .inl (R 7))), (ad 19, .inr (0, [.ref (ad 20), .ref (ad 21), .int (I 12), .int (I 13)])), (ad 20, .inl (T 1, 8, .inl (R 8))), (ad 21, .inl (T 1, 8, .inl (R 9))), (ad 22, .inr (0, [.ref (ad 23), .ref (ad 24), .int (I 14), .int (I 15)])), (ad 23, .inl (T 1, 8, .inl (R 10))), (ad 24, .inl (T 1, 8, .inl (R 11))), (ad 25, .inr (0, [.ref (ad 26), .ref (ad 27), .int (I 16), .int (I 17)])), (ad 26, .inl (T 1, 8, .inl (R 12))), (ad 27, .inl (T 1, 8, .inl (R 13))), (ad 28, .inr (0, [.ref (ad 29), .ref (ad 30), .int (I 18), .int (I 19)])), (ad 29, .inl (T 1, 8, .inl (R 14))), (ad 30, .inl (T 1, 8, .inl (R 15))), (ad 31, .inr (0, [.ref (ad 32), .ref (ad 33), .int (I 20), .int (I 21)])), (ad 32, .inl (T 1, 8, .inl (R 16))), (ad 33, .inl (T 1, 8, .inl (R 17)))]) hP hD [10, 11, 12, 1, 2, 3] [0, 4, 5, 6, 7, 8, 9, 13, 14, 15, 16, 17, 18, 19, 20, 21, 22, 23, 24, 25, 26, 27, 28, 29, 30, 31, 32, 33] (wc := gw T (adp ad 10 1) (gwI I 1 0) (gwR R 1 0)) rfl rfl (by decide) (by decide) (fun q h1 h2 => hk q h1 (fun h3 => h2 (gw_cA h3))) (fun _ _ => trivial) hP1 (gw_D (adp_AD hAD (by decide) (by decide) (by decide)) (fun k hk => gw_cA (cA_in hk)))
  exact h2.sub [0, 31, 32, 33, 1, 2, 3, 4, 5, 6, 28, 29, 30, 7, 8, 9, 10, 11, 12, 13, 14, 15, 16, 17, 18, 19, 20, 21, 22, 23, 24, 25, 26, 27] rfl
theorem tk_of_2_0 (hP : va_P D vwCl (cw T ad I R) H) : va_P D vwCl (gw T (adp ad 13 1) (gwI I 2 0) (gwR R 2 0)) H := hP.sub [13, 14, 15, 1, 2, 3] rfl
theorem tk_2_0 (hAD : AD 34 ad) (hP : va_P D vwCl (cw T ad I R) H) (hk : ∀ q : Nat, q < H.size → ¬ cA 6 (adp ad 13 1) H.size q → H1[q]? = H[q]?) (hP1 : va_P D vwCl (gw T (adp ad 13 1) (upd (upd (gwI I 2 0) 0 (gwI I 2 0 2)) 1 (gwI I 2 0 3)) (updR (updR (gwR R 2 0) 0 (gwR R 2 0 2)) 1 (gwR R 2 0 3))) H1) : va_P D vwCl (cw T ad (tkI I 2 0) (tkR R 2 0)) H1 := by
  have hD : va_D (fun _ => True) (cw T ad I R) := cw_D hAD (fun _ _ => trivial)
  obtain ⟨h2, -⟩ := va_join (wr := [(ad 0, .inr (3, [.ref (ad 1), .ref (ad 4), .int (I 0), .ref (ad 5), .ref (ad 7), .ref (ad 9)])), (ad 4, .inl (T 3, 2, .inr (.inr (.inr (.inr (fun j => some (ad (28 + 3 * j)))))))), (ad 5, .inr (1, [.ref (ad 6), .int (I 1), .int (I 2)])), (ad 6, .inl (T 3, 6, .inr (.inr (.inr (.inr (fun j => some (ad (10 + 3 * j)))))))), (ad 7, .inr (2, [.ref (ad 8), .int (I 3)])), (ad 8, .inl (T 0, 60, .inl (R 18))), (ad 9, .inl (T 1, 8, .inl (R 19))), (ad 10, .inr (0, [.ref (ad 11), .ref (ad 12), .int (I 6), .int (I 7)])), (ad 11, .inl (T 1, 8, .inl (R 2))), (ad 12, .inl (T 1, 8, .inl (R 3))), (ad 16, .inr (0, [.ref (ad 17), .ref (ad 18), .int (I 10), .int (I 11)])), (ad 17, .inl (T 1, 8, .inl (R 6))), (ad 18, .inl (T 1, 8, .inl (R 7))), (ad 19, .inr (0, [.ref (ad 20), .ref (ad 21), .int (I 12), .int (I 13)])), (ad 20, .inl (T 1, 8, .inl (R 8))), (ad 21, .inl (T 1, 8, .inl (R 9))), (ad 22, .inr (0, [.ref (ad 23), .ref (ad 24), .int (I 14), .int (I 15)])), (ad 23, .inl (T 1, 8, .inl (R 10))), (ad 24, .inl (T 1, 8, .inl (R 11))), (ad 25, .inr (0, [.ref (ad 26), .ref (ad 27), .int (I 16), .int (I 17)])), (ad 26, .inl (T 1, 8, .inl (R 12))), (ad 27, .inl (T 1, 8, .inl (R 13))), (ad 28, .inr (0, [.ref (ad 29), .ref (ad 30), .int (I 18), .int (I 19)])), (ad 29, .inl (T 1, 8, .inl (R 14))), (ad 30, .inl (T 1, 8, .inl (R 15))), (ad 31, .inr (0, [.ref (ad 32), .ref (ad 33), .int (I 20), .int (I 21)])), (ad 32, .inl (T 1, 8, .inl (R 16))), (ad 33, .inl (T 1, 8, .inl (R 17)))]) hP hD [13, 14, 15, 1, 2, 3] [0, 4, 5, 6, 7, 8, 9, 10, 11, 12, 16, 17, 18, 19, 20, 21, 22, 23, 24, 25, 26, 27, 28, 29, 30, 31, 32, 33] (wc := gw T (adp ad 13 1) (gwI I 2 0) (gwR R 2 0)) rfl rfl (by decide) (by decide) (fun q h1 h2 => hk q h1 (fun h3 => h2 (gw_cA h3))) (fun _ _ => trivial) hP1 (gw_D (adp_AD hAD (by decide) (by decide) (by decide)) (fun k hk => gw_cA (cA_in hk)))
  exact h2.sub [0, 31, 32, 33, 1, 2, 3, 4, 5, 6, 7, 8, 9, 28, 29, 30, 10, 11, 12, 13, 14, 15, 16, 17, 18, 19, 20, 21, 22, 23, 24, 25, 26, 27] rfl
theorem tk_of_3_0 (hP : va_P D vwCl (cw T ad I R) H) : va_P D vwCl (gw T (adp ad 16 1) (gwI I 3 0) (gwR R 3 0)) H := hP.sub [16, 17, 18, 1, 2, 3] rfl
theorem tk_3_0 (hAD : AD 34 ad) (hP : va_P D vwCl (cw T ad I R) H) (hk : ∀ q : Nat, q < H.size → ¬ cA 6 (adp ad 16 1) H.size q → H1[q]? = H[q]?) (hP1 : va_P D vwCl (gw T (adp ad 16 1) (upd (upd (gwI I 3 0) 0 (gwI I 3 0 2)) 1 (gwI I 3 0 3)) (updR (updR (gwR R 3 0) 0 (gwR R 3 0 2)) 1 (gwR R 3 0 3))) H1) : va_P D vwCl (cw T ad (tkI I 3 0) (tkR R 3 0)) H1 := by
  have hD : va_D (fun _ => True) (cw T ad I R) := cw_D hAD (fun _ _ => trivial)
  obtain ⟨h2, -⟩ := va_join (wr := [(ad 0, .inr (3, [.ref (ad 1), .ref (ad 4), .int (I 0), .ref (ad 5), .ref (ad 7), .ref (ad 9)])), (ad 4, .inl (T 3, 2, .inr (.inr (.inr (.inr (fun j => some (ad (28 + 3 * j)))))))), (ad 5, .inr (1, [.ref (ad 6), .int (I 1), .int (I 2)])), (ad 6, .inl (T 3, 6, .inr (.inr (.inr (.inr (fun j => some (ad (10 + 3 * j)))))))), (ad 7, .inr (2, [.ref (ad 8), .int (I 3)])), (ad 8, .inl (T 0, 60, .inl (R 18))), (ad 9, .inl (T 1, 8, .inl (R 19))), (ad 10, .inr (0, [.ref (ad 11), .ref (ad 12), .int (I 6), .int (I 7)])), (ad 11, .inl (T 1, 8, .inl (R 2))), (ad 12, .inl (T 1, 8, .inl (R 3))), (ad 13, .inr (0, [.ref (ad 14), .ref (ad 15), .int (I 8), .int (I 9)])), (ad 14, .inl (T 1, 8, .inl (R 4))), (ad 15, .inl (T 1, 8, .inl (R 5))), (ad 19, .inr (0, [.ref (ad 20), .ref (ad 21), .int (I 12), .int (I 13)])), (ad 20, .inl (T 1, 8, .inl (R 8))), (ad 21, .inl (T 1, 8, .inl (R 9))), (ad 22, .inr (0, [.ref (ad 23), .ref (ad 24), .int (I 14), .int (I 15)])), (ad 23, .inl (T 1, 8, .inl (R 10))), (ad 24, .inl (T 1, 8, .inl (R 11))), (ad 25, .inr (0, [.ref (ad 26), .ref (ad 27), .int (I 16), .int (I 17)])), (ad 26, .inl (T 1, 8, .inl (R 12))), (ad 27, .inl (T 1, 8, .inl (R 13))), (ad 28, .inr (0, [.ref (ad 29), .ref (ad 30), .int (I 18), .int (I 19)])), (ad 29, .inl (T 1, 8, .inl (R 14))), (ad 30, .inl (T 1, 8, .inl (R 15))), (ad 31, .inr (0, [.ref (ad 32), .ref (ad 33), .int (I 20), .int (I 21)])), (ad 32, .inl (T 1, 8, .inl (R 16))), (ad 33, .inl (T 1, 8, .inl (R 17)))]) hP hD [16, 17, 18, 1, 2, 3] [0, 4, 5, 6, 7, 8, 9, 10, 11, 12, 13, 14, 15, 19, 20, 21, 22, 23, 24, 25, 26, 27, 28, 29, 30, 31, 32, 33] (wc := gw T (adp ad 16 1) (gwI I 3 0) (gwR R 3 0)) rfl rfl (by decide) (by decide) (fun q h1 h2 => hk q h1 (fun h3 => h2 (gw_cA h3))) (fun _ _ => trivial) hP1 (gw_D (adp_AD hAD (by decide) (by decide) (by decide)) (fun k hk => gw_cA (cA_in hk)))
  exact h2.sub [0, 31, 32, 33, 1, 2, 3, 4, 5, 6, 7, 8, 9, 10, 11, 12, 28, 29, 30, 13, 14, 15, 16, 17, 18, 19, 20, 21, 22, 23, 24, 25, 26, 27] rfl
theorem tk_of_4_0 (hP : va_P D vwCl (cw T ad I R) H) : va_P D vwCl (gw T (adp ad 19 1) (gwI I 4 0) (gwR R 4 0)) H := hP.sub [19, 20, 21, 1, 2, 3] rfl
theorem tk_4_0 (hAD : AD 34 ad) (hP : va_P D vwCl (cw T ad I R) H) (hk : ∀ q : Nat, q < H.size → ¬ cA 6 (adp ad 19 1) H.size q → H1[q]? = H[q]?) (hP1 : va_P D vwCl (gw T (adp ad 19 1) (upd (upd (gwI I 4 0) 0 (gwI I 4 0 2)) 1 (gwI I 4 0 3)) (updR (updR (gwR R 4 0) 0 (gwR R 4 0 2)) 1 (gwR R 4 0 3))) H1) : va_P D vwCl (cw T ad (tkI I 4 0) (tkR R 4 0)) H1 := by
  have hD : va_D (fun _ => True) (cw T ad I R) := cw_D hAD (fun _ _ => trivial)
  obtain ⟨h2, -⟩ := va_join (wr := [(ad 0, .inr (3, [.ref (ad 1), .ref (ad 4), .int (I 0), .ref (ad 5), .ref (ad 7), .ref (ad 9)])), (ad 4, .inl (T 3, 2, .inr (.inr (.inr (.inr (fun j => some (ad (28 + 3 * j)))))))), (ad 5, .inr (1, [.ref (ad 6), .int (I 1), .int (I 2)])), (ad 6, .inl (T 3, 6, .inr (.inr (.inr (.inr (fun j => some (ad (10 + 3 * j)))))))), (ad 7, .inr (2, [.ref (ad 8), .int (I 3)])), (ad 8, .inl (T 0, 60, .inl (R 18))), (ad 9, .inl (T 1, 8, .inl (R 19))), (ad 10, .inr (0, [.ref (ad 11), .ref (ad 12), .int (I 6), .int (I 7)])), (ad 11, .inl (T 1, 8, .inl (R 2))), (ad 12, .inl (T 1, 8, .inl (R 3))), (ad 13, .inr (0, [.ref (ad 14), .ref (ad 15), .int (I 8), .int (I 9)])), (ad 14, .inl (T 1, 8, .inl (R 4))), (ad 15, .inl (T 1, 8, .inl (R 5))), (ad 16, .inr (0, [.ref (ad 17), .ref (ad 18), .int (I 10), .int (I 11)])), (ad 17, .inl (T 1, 8, .inl (R 6))), (ad 18, .inl (T 1, 8, .inl (R 7))), (ad 22, .inr (0, [.ref (ad 23), .ref (ad 24), .int (I 14), .int (I 15)])), (ad 23, .inl (T 1, 8, .inl (R 10))), (ad 24, .inl (T 1, 8, .inl (R 11))), (ad 25, .inr (0, [.ref (ad 26), .ref (ad 27), .int (I 16), .int (I 17)])), (ad 26, .inl (T 1, 8, .inl (R 12))), (ad 27, .inl (T 1, 8, .inl (R 13))), (ad 28, .inr (0, [.ref (ad 29), .ref (ad 30), .int (I 18), .int (I 19)])), (ad 29, .inl (T 1, 8, .inl (R 14))), (ad 30, .inl (T 1, 8, .inl (R 15))), (ad 31, .inr (0, [.ref (ad 32), .ref (ad 33), .int (I 20), .int (I 21)])), (ad 32, .inl (T 1, 8, .inl (R 16))), (ad 33, .inl (T 1, 8, .inl (R 17)))]) hP hD [19, 20, 21, 1, 2, 3] [0, 4, 5, 6, 7, 8, 9, 10, 11, 12, 13, 14, 15, 16, 17, 18, 22, 23, 24, 25, 26, 27, 28, 29, 30, 31, 32, 33] (wc := gw T (adp ad 19 1) (gwI I 4 0) (gwR R 4 0)) rfl rfl (by decide) (by decide) (fun q h1 h2 => hk q h1 (fun h3 => h2 (gw_cA h3))) (fun _ _ => trivial) hP1 (gw_D (adp_AD hAD (by decide) (by decide) (by decide)) (fun k hk => gw_cA (cA_in hk)))
  exact h2.sub [0, 31, 32, 33, 1, 2, 3, 4, 5, 6, 7, 8, 9, 10, 11, 12, 13, 14, 15, 28, 29, 30, 16, 17, 18, 19, 20, 21, 22, 23, 24, 25, 26, 27] rfl
theorem tk_of_5_0 (hP : va_P D vwCl (cw T ad I R) H) : va_P D vwCl (gw T (adp ad 22 1) (gwI I 5 0) (gwR R 5 0)) H := hP.sub [22, 23, 24, 1, 2, 3] rfl
theorem tk_5_0 (hAD : AD 34 ad) (hP : va_P D vwCl (cw T ad I R) H) (hk : ∀ q : Nat, q < H.size → ¬ cA 6 (adp ad 22 1) H.size q → H1[q]? = H[q]?) (hP1 : va_P D vwCl (gw T (adp ad 22 1) (upd (upd (gwI I 5 0) 0 (gwI I 5 0 2)) 1 (gwI I 5 0 3)) (updR (updR (gwR R 5 0) 0 (gwR R 5 0 2)) 1 (gwR R 5 0 3))) H1) : va_P D vwCl (cw T ad (tkI I 5 0) (tkR R 5 0)) H1 := by
  have hD : va_D (fun _ => True) (cw T ad I R) := cw_D hAD (fun _ _ => trivial)
  obtain ⟨h2, -⟩ := va_join (wr := [(ad 0, .inr (3, [.ref (ad 1), .ref (ad 4), .int (I 0), .ref (ad 5), .ref (ad 7), .ref (ad 9)])), (ad 4, .inl (T 3, 2, .inr (.inr (.inr (.inr (fun j => some (ad (28 + 3 * j)))))))), (ad 5, .inr (1, [.ref (ad 6), .int (I 1), .int (I 2)])), (ad 6, .inl (T 3, 6, .inr (.inr (.inr (.inr (fun j => some (ad (10 + 3 * j)))))))), (ad 7, .inr (2, [.ref (ad 8), .int (I 3)])), (ad 8, .inl (T 0, 60, .inl (R 18))), (ad 9, .inl (T 1, 8, .inl (R 19))), (ad 10, .inr (0, [.ref (ad 11), .ref (ad 12), .int (I 6), .int (I 7)])), (ad 11, .inl (T 1, 8, .inl (R 2))), (ad 12, .inl (T 1, 8, .inl (R 3))), (ad 13, .inr (0, [.ref (ad 14), .ref (ad 15), .int (I 8), .int (I 9)])), (ad 14, .inl (T 1, 8, .inl (R 4))), (ad 15, .inl (T 1, 8, .inl (R 5))), (ad 16, .inr (0, [.ref (ad 17), .ref (ad 18), .int (I 10), .int (I 11)])), (ad 17, .inl (T 1, 8, .inl (R 6))), (ad 18, .inl (T 1, 8, .inl (R 7))), (ad 19, .inr (0, [.ref (ad 20), .ref (ad 21), .int (I 12), .int (I 13)])), (ad 20, .inl (T 1, 8, .inl (R 8))), (ad 21, .inl (T 1, 8, .inl (R 9))), (ad 25, .inr (0, [.ref (ad 26), .ref (ad 27), .int (I 16), .int (I 17)])), (ad 26, .inl (T 1, 8, .inl (R 12))), (ad 27, .inl (T 1, 8, .inl (R 13))), (ad 28, .inr (0, [.ref (ad 29), .ref (ad 30), .int (I 18), .int (I 19)])), (ad 29, .inl (T 1, 8, .inl (R 14))), (ad 30, .inl (T 1, 8, .inl (R 15))), (ad 31, .inr (0, [.ref (ad 32), .ref (ad 33), .int (I 20), .int (I 21)])), (ad 32, .inl (T 1, 8, .inl (R 16))), (ad 33, .inl (T 1, 8, .inl (R 17)))]) hP hD [22, 23, 24, 1, 2, 3] [0, 4, 5, 6, 7, 8, 9, 10, 11, 12, 13, 14, 15, 16, 17, 18, 19, 20, 21, 25, 26, 27, 28, 29, 30, 31, 32, 33] (wc := gw T (adp ad 22 1) (gwI I 5 0) (gwR R 5 0)) rfl rfl (by decide) (by decide) (fun q h1 h2 => hk q h1 (fun h3 => h2 (gw_cA h3))) (fun _ _ => trivial) hP1 (gw_D (adp_AD hAD (by decide) (by decide) (by decide)) (fun k hk => gw_cA (cA_in hk)))
  exact h2.sub [0, 31, 32, 33, 1, 2, 3, 4, 5, 6, 7, 8, 9, 10, 11, 12, 13, 14, 15, 16, 17, 18, 28, 29, 30, 19, 20, 21, 22, 23, 24, 25, 26, 27] rfl
theorem tk_of_6_0 (hP : va_P D vwCl (cw T ad I R) H) : va_P D vwCl (gw T (adp ad 25 1) (gwI I 6 0) (gwR R 6 0)) H := hP.sub [25, 26, 27, 1, 2, 3] rfl
theorem tk_6_0 (hAD : AD 34 ad) (hP : va_P D vwCl (cw T ad I R) H) (hk : ∀ q : Nat, q < H.size → ¬ cA 6 (adp ad 25 1) H.size q → H1[q]? = H[q]?) (hP1 : va_P D vwCl (gw T (adp ad 25 1) (upd (upd (gwI I 6 0) 0 (gwI I 6 0 2)) 1 (gwI I 6 0 3)) (updR (updR (gwR R 6 0) 0 (gwR R 6 0 2)) 1 (gwR R 6 0 3))) H1) : va_P D vwCl (cw T ad (tkI I 6 0) (tkR R 6 0)) H1 := by
  have hD : va_D (fun _ => True) (cw T ad I R) := cw_D hAD (fun _ _ => trivial)
  obtain ⟨h2, -⟩ := va_join (wr := [(ad 0, .inr (3, [.ref (ad 1), .ref (ad 4), .int (I 0), .ref (ad 5), .ref (ad 7), .ref (ad 9)])), (ad 4, .inl (T 3, 2, .inr (.inr (.inr (.inr (fun j => some (ad (28 + 3 * j)))))))), (ad 5, .inr (1, [.ref (ad 6), .int (I 1), .int (I 2)])), (ad 6, .inl (T 3, 6, .inr (.inr (.inr (.inr (fun j => some (ad (10 + 3 * j)))))))), (ad 7, .inr (2, [.ref (ad 8), .int (I 3)])), (ad 8, .inl (T 0, 60, .inl (R 18))), (ad 9, .inl (T 1, 8, .inl (R 19))), (ad 10, .inr (0, [.ref (ad 11), .ref (ad 12), .int (I 6), .int (I 7)])), (ad 11, .inl (T 1, 8, .inl (R 2))), (ad 12, .inl (T 1, 8, .inl (R 3))), (ad 13, .inr (0, [.ref (ad 14), .ref (ad 15), .int (I 8), .int (I 9)])), (ad 14, .inl (T 1, 8, .inl (R 4))), (ad 15, .inl (T 1, 8, .inl (R 5))), (ad 16, .inr (0, [.ref (ad 17), .ref (ad 18), .int (I 10), .int (I 11)])), (ad 17, .inl (T 1, 8, .inl (R 6))), (ad 18, .inl (T 1, 8, .inl (R 7))), (ad 19, .inr (0, [.ref (ad 20), .ref (ad 21), .int (I 12), .int (I 13)])), (ad 20, .inl (T 1, 8, .inl (R 8))), (ad 21, .inl (T 1, 8, .inl (R 9))), (ad 22, .inr (0, [.ref (ad 23), .ref (ad 24), .int (I 14), .int (I 15)])), (ad 23, .inl (T 1, 8, .inl (R 10))), (ad 24, .inl (T 1, 8, .inl (R 11))), (ad 28, .inr (0, [.ref (ad 29), .ref (ad 30), .int (I 18), .int (I 19)])), (ad 29, .inl (T 1, 8, .inl (R 14))), (ad 30, .inl (T 1, 8, .inl (R 15))), (ad 31, .inr (0, [.ref (ad 32), .ref (ad 33), .int (I 20), .int (I 21)])), (ad 32, .inl (T 1, 8, .inl (R 16))), (ad 33, .inl (T 1, 8, .inl (R 17)))]) hP hD [25, 26, 27, 1, 2, 3] [0, 4, 5, 6, 7, 8, 9, 10, 11, 12, 13, 14, 15, 16, 17, 18, 19, 20, 21, 22, 23, 24, 28, 29, 30, 31, 32, 33] (wc := gw T (adp ad 25 1) (gwI I 6 0) (gwR R 6 0)) rfl rfl (by decide) (by decide) (fun q h1 h2 => hk q h1 (fun h3 => h2 (gw_cA h3))) (fun _ _ => trivial) hP1 (gw_D (adp_AD hAD (by decide) (by decide) (by decide)) (fun k hk => gw_cA (cA_in hk)))
  exact h2.sub [0, 31, 32, 33, 1, 2, 3, 4, 5, 6, 7, 8, 9, 10, 11, 12, 13, 14, 15, 16, 17, 18, 19, 20, 21, 28, 29, 30, 22, 23, 24, 25, 26, 27] rfl
theorem tk_of_0_1 (hP : va_P D vwCl (cw T ad I R) H) : va_P D vwCl (gw T (adp ad 1 10) (gwI I 0 1) (gwR R 0 1)) H := hP.sub [1, 2, 3, 10, 11, 12] rfl
theorem tk_0_1 (hAD : AD 34 ad) (hP : va_P D vwCl (cw T ad I R) H) (hk : ∀ q : Nat, q < H.size → ¬ cA 6 (adp ad 1 10) H.size q → H1[q]? = H[q]?) (hP1 : va_P D vwCl (gw T (adp ad 1 10) (upd (upd (gwI I 0 1) 0 (gwI I 0 1 2)) 1 (gwI I 0 1 3)) (updR (updR (gwR R 0 1) 0 (gwR R 0 1 2)) 1 (gwR R 0 1 3))) H1) : va_P D vwCl (cw T ad (tkI I 0 1) (tkR R 0 1)) H1 := by
  have hD : va_D (fun _ => True) (cw T ad I R) := cw_D hAD (fun _ _ => trivial)
  obtain ⟨h2, -⟩ := va_join (wr := [(ad 0, .inr (3, [.ref (ad 1), .ref (ad 4), .int (I 0), .ref (ad 5), .ref (ad 7), .ref (ad 9)])), (ad 4, .inl (T 3, 2, .inr (.inr (.inr (.inr (fun j => some (ad (28 + 3 * j)))))))), (ad 5, .inr (1, [.ref (ad 6), .int (I 1), .int (I 2)])), (ad 6, .inl (T 3, 6, .inr (.inr (.inr (.inr (fun j => some (ad (10 + 3 * j)))))))), (ad 7, .inr (2, [.ref (ad 8), .int (I 3)])), (ad 8, .inl (T 0, 60, .inl (R 18))), (ad 9, .inl (T 1, 8, .inl (R 19))), (ad 13, .inr (0, [.ref (ad 14), .ref (ad 15), .int (I 8), .int (I 9)])), (ad 14, .inl (T 1, 8, .inl (R 4))), (ad 15, .inl (T 1, 8, .inl (R 5))), (ad 16, .inr (0, [.ref (ad 17), .ref (ad 18), .int (I 10), .int (I 11)])), (ad 17, .inl (T 1, 8, .inl (R 6))), (ad 18, .inl (T 1, 8, .inl (R 7))), (ad 19, .inr (0, [.ref (ad 20), .ref (ad 21), .int (I 12), .int (I 13)])), (ad 20, .inl (T 1, 8, .inl (R 8))), (ad 21, .inl (T 1, 8, .inl (R 9))), (ad 22, .inr (0, [.ref (ad 23), .ref (ad 24), .int (I 14), .int (I 15)])), (ad 23, .inl (T 1, 8, .inl (R 10))), (ad 24, .inl (T 1, 8, .inl (R 11))), (ad 25, .inr (0, [.ref (ad 26), .ref (ad 27), .int (I 16), .int (I 17)])), (ad 26, .inl (T 1, 8, .inl (R 12))), (ad 27, .inl (T 1, 8, .inl (R 13))), (ad 28, .inr (0, [.ref (ad 29), .ref (ad 30), .int (I 18), .int (I 19)])), (ad 29, .inl (T 1, 8, .inl (R 14))), (ad 30, .inl (T 1, 8, .inl (R 15))), (ad 31, .inr (0, [.ref (ad 32), .ref (ad 33), .int (I 20), .int (I 21)])), (ad 32, .inl (T 1, 8, .inl (R 16))), (ad 33, .inl (T 1, 8, .inl (R 17)))]) hP hD [1, 2, 3, 10, 11, 12] [0, 4, 5, 6, 7, 8, 9, 13, 14, 15, 16, 17, 18, 19, 20, 21, 22, 23, 24, 25, 26, 27, 28, 29, 30, 31, 32, 33] (wc := gw T (adp ad 1 10) (gwI I 0 1) (gwR R 0 1)) rfl rfl (by decide) (by decide) (fun q h1 h2 => hk q h1 (fun h3 => h2 (gw_cA h3))) (fun _ _ => trivial) hP1 (gw_D (adp_AD hAD (by decide) (by decide) (by decide)) (fun k hk => gw_cA (cA_in hk)))
  exact h2.sub [0, 28, 29, 30, 1, 2, 3, 4, 5, 6, 31, 32, 33, 7, 8, 9, 10, 11, 12, 13, 14, 15, 16, 17, 18, 19, 20, 21, 22, 23, 24, 25, 26, 27] rfl
theorem tk_of_0_2 (hP : va_P D vwCl (cw T ad I R) H) : va_P D vwCl (gw T (adp ad 1 13) (gwI I 0 2) (gwR R 0 2)) H := hP.sub [1, 2, 3, 13, 14, 15] rfl
theorem tk_0_2 (hAD : AD 34 ad) (hP : va_P D vwCl (cw T ad I R) H) (hk : ∀ q : Nat, q < H.size → ¬ cA 6 (adp ad 1 13) H.size q → H1[q]? = H[q]?) (hP1 : va_P D vwCl (gw T (adp ad 1 13) (upd (upd (gwI I 0 2) 0 (gwI I 0 2 2)) 1 (gwI I 0 2 3)) (updR (updR (gwR R 0 2) 0 (gwR R 0 2 2)) 1 (gwR R 0 2 3))) H1) : va_P D vwCl (cw T ad (tkI I 0 2) (tkR R 0 2)) H1 := by
  have hD : va_D (fun _ => True) (cw T ad I R) := cw_D hAD (fun _ _ => trivial)
  obtain ⟨h2, -⟩ := va_join (wr := [(ad 0, .inr (3, [.ref (ad 1), .ref (ad 4), .int (I 0), .ref (ad 5), .ref (ad 7), .ref (ad 9)])), (ad 4, .inl (T 3, 2, .inr (.inr (.inr (.inr (fun j => some (ad (28 + 3 * j)))))))), (ad 5, .inr (1, [.ref (ad 6), .int (I 1), .int (I 2)])), (ad 6, .inl (T 3, 6, .inr (.inr (.inr (.inr (fun j => some (ad (10 + 3 * j)))))))), (ad 7, .inr (2, [.ref (ad 8), .int (I 3)])), (ad 8, .inl (T 0, 60, .inl (R 18))), (ad 9, .inl (T 1, 8, .inl (R 19))), (ad 10, .inr (0, [.ref (ad 11), .ref (ad 12), .int (I 6), .int (I 7)])), (ad 11, .inl (T 1, 8, .inl (R 2))), (ad 12, .inl (T 1, 8, .inl (R 3))), (ad 16, .inr (0, [.ref (ad 17), .ref (ad 18), .int (I 10), .int (I 11)])), (ad 17, .inl (T 1, 8, .inl (R 6))), (ad 18, .inl (T 1, 8, .inl (R 7))), (ad 19, .inr (0, [.ref (ad 20), .ref (ad 21), .int (I 12), .int (I 13)])), (ad 20, .inl (T 1, 8, .inl (R 8))), (ad 21, .inl (T 1, 8, .inl (R 9))), (ad 22, .inr (0, [.ref (ad 23), .ref (ad 24), .int (I 14), .int (I 15)])), (ad 23, .inl (T 1, 8, .inl (R 10))), (ad 24, .inl (T 1, 8, .inl (R 11))), (ad 25, .inr (0, [.ref (ad 26), .ref (ad 27), .int (I 16), .int (I 17)])), (ad 26, .inl (T 1, 8, .inl (R 12))), (ad 27, .inl (T 1, 8, .inl (R 13))), (ad 28, .inr (0, [.ref (ad 29), .ref (ad 30), .int (I 18), .int (I 19)])), (ad 29, .inl (T 1, 8, .inl (R 14))), (ad 30, .inl (T 1, 8, .inl (R 15))), (ad 31, .inr (0, [.ref (ad 32), .ref (ad 33), .int (I 20), .int (I 21)])), (ad 32, .inl (T 1, 8, .inl (R 16))), (ad 33, .inl (T 1, 8, .inl (R 17)))]) hP hD [1, 2, 3, 13, 14, 15] [0, 4, 5, 6, 7, 8, 9, 10, 11, 12, 16, 17, 18, 19, 20, 21, 22, 23, 24, 25, 26, 27, 28, 29, 30, 31, 32, 33] (wc := gw T (adp ad 1 13) (gwI I 0 2) (gwR R 0 2)) rfl rfl (by decide) (by decide) (fun q h1 h2 => hk q h1 (fun h3 => h2 (gw_cA h3))) (fun _ _ => trivial) hP1 (gw_D (adp_AD hAD (by decide) (by decide) (by decide)) (fun k hk => gw_cA (cA_in hk)))
  exact h2.sub [0, 28, 29, 30, 1, 2, 3, 4, 5, 6, 7, 8, 9, 31, 32, 33, 10, 11, 12, 13, 14, 15, 16, 17, 18, 19, 20, 21, 22, 23, 24, 25, 26, 27] rfl
theorem tk_of_0_3 (hP : va_P D vwCl (cw T ad I R) H) : va_P D vwCl (gw T (adp ad 1 16) (gwI I 0 3) (gwR R 0 3)) H := hP.sub [1, 2, 3, 16, 17, 18] rfl
theorem tk_0_3 (hAD : AD 34 ad) (hP : va_P D vwCl (cw T ad I R) H) (hk : ∀ q : Nat, q < H.size → ¬ cA 6 (adp ad 1 16) H.size q → H1[q]? = H[q]?) (hP1 : va_P D vwCl (gw T (adp ad 1 16) (upd (upd (gwI I 0 3) 0 (gwI I 0 3 2)) 1 (gwI I 0 3 3)) (updR (updR (gwR R 0 3) 0 (gwR R 0 3 2)) 1 (gwR R 0 3 3))) H1) : va_P D vwCl (cw T ad (tkI I 0 3) (tkR R 0 3)) H1 := by
  have hD : va_D (fun _ => True) (cw T ad I R) := cw_D hAD (fun _ _ => trivial)
  obtain ⟨h2, -⟩ := va_join (wr := [(ad 0, .inr (3, [.ref (ad 1), .ref (ad 4), .int (I 0), .ref (ad 5), .ref (ad 7), .ref (ad 9)])), (ad 4, .inl (T 3, 2, .inr (.inr (.inr (.inr (fun j => some (ad (28 + 3 * j)))))))), (ad 5, .inr (1, [.ref (ad 6), .int (I 1), .int (I 2)])), (ad 6, .inl (T 3, 6, .inr (.inr (.inr (.inr (fun j => some (ad (10 + 3 * j)))))))), (ad 7, .inr (2, [.ref (ad 8), .int (I 3)])), (ad 8, .inl (T 0, 60, .inl (R 18))), (ad 9, .inl (T 1, 8, .inl (R 19))), (ad 10, .inr (0, [.ref (ad 11), .ref (ad 12), .int (I 6), .int (I 7)])), (ad 11, .inl (T 1, 8, .inl (R 2))), (ad 12, .inl (T 1, 8, .inl (R 3))), (ad 13, .inr (0, [.ref (ad 14), .ref (ad 15), .int (I 8), .int (I 9)])), (ad 14, .inl (T 1, 8, .inl (R 4))), (ad 15, .inl (T 1, 8, .inl (R 5))), (ad 19, .inr (0, [.ref (ad 20), .ref (ad 21), .int (I 12), .int (I 13)])), (ad 20, .inl (T 1, 8, .inl (R 8))), (ad 21, .inl (T 1, 8, .inl (R 9))), (ad 22, .inr (0, [.ref (ad 23), .ref (ad 24), .int (I 14), .int (I 15)])), (ad 23, .inl (T 1, 8, .inl (R 10))), (ad 24, .inl (T 1, 8, .inl (R 11))), (ad 25, .inr (0, [.ref (ad 26), .ref (ad 27), .int (I 16), .int (I 17)])), (ad 26, .inl (T 1, 8, .inl (R 12))), (ad 27, .inl (T 1, 8, .inl (R 13))), (ad 28, .inr (0, [.ref (ad 29), .ref (ad 30), .int (I 18), .int (I 19)])), (ad 29, .inl (T 1, 8, .inl (R 14))), (ad 30, .inl (T 1, 8, .inl (R 15))), (ad 31, .inr (0, [.ref (ad 32), .ref (ad 33), .int (I 20), .int (I 21)])), (ad 32, .inl (T 1, 8, .inl (R 16))), (ad 33, .inl (T 1, 8, .inl (R 17)))]) hP hD [1, 2, 3, 16, 17, 18] [0, 4, 5, 6, 7, 8, 9, 10, 11, 12, 13, 14, 15, 19, 20, 21, 22, 23, 24, 25, 26, 27, 28, 29, 30, 31, 32, 33] (wc := gw T (adp ad 1 16) (gwI I 0 3) (gwR R 0 3)) rfl rfl (by decide) (by decide) (fun q h1 h2 => hk q h1 (fun h3 => h2 (gw_cA h3))) (fun _ _ => trivial) hP1 (gw_D (adp_AD hAD (by decide) (by decide) (by decide)) (fun k hk => gw_cA (cA_in hk)))
  exact h2.sub [0, 28, 29, 30, 1, 2, 3, 4, 5, 6, 7, 8, 9, 10, 11, 12, 31, 32, 33, 13, 14, 15, 16, 17, 18, 19, 20, 21, 22, 23, 24, 25, 26, 27] rfl
theorem tk_of_0_4 (hP : va_P D vwCl (cw T ad I R) H) : va_P D vwCl (gw T (adp ad 1 19) (gwI I 0 4) (gwR R 0 4)) H := hP.sub [1, 2, 3, 19, 20, 21] rfl
theorem tk_0_4 (hAD : AD 34 ad) (hP : va_P D vwCl (cw T ad I R) H) (hk : ∀ q : Nat, q < H.size → ¬ cA 6 (adp ad 1 19) H.size q → H1[q]? = H[q]?) (hP1 : va_P D vwCl (gw T (adp ad 1 19) (upd (upd (gwI I 0 4) 0 (gwI I 0 4 2)) 1 (gwI I 0 4 3)) (updR (updR (gwR R 0 4) 0 (gwR R 0 4 2)) 1 (gwR R 0 4 3))) H1) : va_P D vwCl (cw T ad (tkI I 0 4) (tkR R 0 4)) H1 := by
  have hD : va_D (fun _ => True) (cw T ad I R) := cw_D hAD (fun _ _ => trivial)
  obtain ⟨h2, -⟩ := va_join (wr := [(ad 0, .inr (3, [.ref (ad 1), .ref (ad 4), .int (I 0), .ref (ad 5), .ref (ad 7), .ref (ad 9)])), (ad 4, .inl (T 3, 2, .inr (.inr (.inr (.inr (fun j => some (ad (28 + 3 * j)))))))), (ad 5, .inr (1, [.ref (ad 6), .int (I 1), .int (I 2)])), (ad 6, .inl (T 3, 6, .inr (.inr (.inr (.inr (fun j => some (ad (10 + 3 * j)))))))), (ad 7, .inr (2, [.ref (ad 8), .int (I 3)])), (ad 8, .inl (T 0, 60, .inl (R 18))), (ad 9, .inl (T 1, 8, .inl (R 19))), (ad 10, .inr (0, [.ref (ad 11), .ref (ad 12), .int (I 6), .int (I 7)])), (ad 11, .inl (T 1, 8, .inl (R 2))), (ad 12, .inl (T 1, 8, .inl (R 3))), (ad 13, .inr (0, [.ref (ad 14), .ref (ad 15), .int (I 8), .int (I 9)])), (ad 14, .inl (T 1, 8, .inl (R 4))), (ad 15, .inl (T 1, 8, .inl (R 5))), (ad 16, .inr (0, [.ref (ad 17), .ref (ad 18), .int (I 10), .int (I 11)])), (ad 17, .inl (T 1, 8, .inl (R 6))), (ad 18, .inl (T 1, 8, .inl (R 7))), (ad 22, .inr (0, [.ref (ad 23), .ref (ad 24), .int (I 14), .int (I 15)])), (ad 23, .inl (T 1, 8, .inl (R 10))), (ad 24, .inl (T 1, 8, .inl (R 11))), (ad 25, .inr (0, [.ref (ad 26), .ref (ad 27), .int (I 16), .int (I 17)])), (ad 26, .inl (T 1, 8, .inl (R 12))), (ad 27, .inl (T 1, 8, .inl (R 13))), (ad 28, .inr (0, [.ref (ad 29), .ref (ad 30), .int (I 18), .int (I 19)])), (ad 29, .inl (T 1, 8, .inl (R 14))), (ad 30, .inl (T 1, 8, .inl (R 15))), (ad 31, .inr (0, [.ref (ad 32), .ref (ad 33), .int (I 20), .int (I 21)])), (ad 32, .inl (T 1, 8, .inl (R 16))), (ad 33, .inl (T 1, 8, .inl (R 17)))]) hP hD [1, 2, 3, 19, 20, 21] [0, 4, 5, 6, 7, 8, 9, 10, 11, 12, 13, 14, 15, 16, 17, 18, 22, 23, 24, 25, 26, 27, 28, 29, 30, 31, 32, 33] (wc := gw T (adp ad 1 19) (gwI I 0 4) (gwR R 0 4)) rfl rfl (by decide) (by decide) (fun q h1 h2 => hk q h1 (fun h3 => h2 (gw_cA h3))) (fun _ _ => trivial) hP1 (gw_D (adp_AD hAD (by decide) (by decide) (by decide)) (fun k hk => gw_cA (cA_in hk)))
  exact h2.sub [0, 28, 29, 30, 1, 2, 3, 4, 5, 6, 7, 8, 9, 10, 11, 12, 13, 14, 15, 31, 32, 33, 16, 17, 18, 19, 20, 21, 22, 23, 24, 25, 26, 27] rfl
theorem tk_of_0_5 (hP : va_P D vwCl (cw T ad I R) H) : va_P D vwCl (gw T (adp ad 1 22) (gwI I 0 5) (gwR R 0 5)) H := hP.sub [1, 2, 3, 22, 23, 24] rfl
theorem tk_0_5 (hAD : AD 34 ad) (hP : va_P D vwCl (cw T ad I R) H) (hk : ∀ q : Nat, q < H.size → ¬ cA 6 (adp ad 1 22) H.size q → H1[q]? = H[q]?) (hP1 : va_P D vwCl (gw T (adp ad 1 22) (upd (upd (gwI I 0 5) 0 (gwI I 0 5 2)) 1 (gwI I 0 5 3)) (updR (updR (gwR R 0 5) 0 (gwR R 0 5 2)) 1 (gwR R 0 5 3))) H1) : va_P D vwCl (cw T ad (tkI I 0 5) (tkR R 0 5)) H1 := by
  have hD : va_D (fun _ => True) (cw T ad I R) := cw_D hAD (fun _ _ => trivial)
  obtain ⟨h2, -⟩ := va_join (wr := [(ad 0, .inr (3, [.ref (ad 1), .ref (ad 4), .int (I 0), .ref (ad 5), .ref (ad 7), .ref (ad 9)])), (ad 4, .inl (T 3, 2, .inr (.inr (.inr (.inr (fun j => some (ad (28 + 3 * j)))))))), (ad 5, .inr (1, [.ref (ad 6), .int (I 1), .int (I 2)])), (ad 6, .inl (T 3, 6, .inr (.inr (.inr (.inr (fun j => some (ad (10 + 3 * j)))))))), (ad 7, .inr (2, [.ref (ad 8), .int (I 3)])), (ad 8, .inl (T 0, 60, .inl (R 18))), (ad 9, .inl (T 1, 8, .inl (R 19))), (ad 10, .inr (0, [.ref (ad 11), .ref (ad 12), .int (I 6), .int (I 7)])), (ad 11, .inl (T 1, 8, .inl (R 2))), (ad 12, .inl (T 1, 8, .inl (R 3))), (ad 13, .inr (0, [.ref (ad 14), .ref (ad 15), .int (I 8), .int (I 9)])), (ad 14, .inl (T 1, 8, .inl (R 4))), (ad 15, .inl (T 1, 8, .inl (R 5))), (ad 16, .inr (0, [.ref (ad 17), .ref (ad 18), .int (I 10), .int (I 11)])), (ad 17, .inl (T 1, 8, .inl (R 6))), (ad 18, .inl (T 1, 8, .inl (R 7))), (ad 19, .inr (0, [.ref (ad 20), .ref (ad 21), .int (I 12), .int (I 13)])), (ad 20, .inl (T 1, 8, .inl (R 8))), (ad 21, .inl (T 1, 8, .inl (R 9))), (ad 25, .inr (0, [.ref (ad 26), .ref (ad 27), .int (I 16), .int (I 17)])), (ad 26, .inl (T 1, 8, .inl (R 12))), (ad 27, .inl (T 1, 8, .inl (R 13))), (ad 28, .inr (0, [.ref (ad 29), .ref (ad 30), .int (I 18), .int (I 19)])), (ad 29, .inl (T 1, 8, .inl (R 14))), (ad 30, .inl (T 1, 8, .inl (R 15))), (ad 31, .inr (0, [.ref (ad 32), .ref (ad 33), .int (I 20), .int (I 21)])), (ad 32, .inl (T 1, 8, .inl (R 16))), (ad 33, .inl (T 1, 8, .inl (R 17)))]) hP hD [1, 2, 3, 22, 23, 24] [0, 4, 5, 6, 7, 8, 9, 10, 11, 12, 13, 14, 15, 16, 17, 18, 19, 20, 21, 25, 26, 27, 28, 29, 30, 31, 32, 33] (wc := gw T (adp ad 1 22) (gwI I 0 5) (gwR R 0 5)) rfl rfl (by decide) (by decide) (fun q h1 h2 => hk q h1 (fun h3 => h2 (gw_cA h3))) (fun _ _ => trivial) hP1 (gw_D (adp_AD hAD (by decide) (by decide) (by decide)) (fun k hk => gw_cA (cA_in hk)))
  exact h2.sub [0, 28, 29, 30, 1, 2, 3, 4, 5, 6, 7, 8, 9, 10, 11, 12, 13, 14, 15, 16, 17, 18, 31, 32, 33, 19, 20, 21, 22, 23, 24, 25, 26, 27] rfl
theorem tk_of_0_6 (hP : va_P D vwCl (cw T ad I R) H) : va_P D vwCl (gw T (adp ad 1 25) (gwI I 0 6) (gwR R 0 6)) H := hP.sub [1, 2, 3, 25, 26, 27] rfl
theorem tk_0_6 (hAD : AD 34 ad) (hP : va_P D vwCl (cw T ad I R) H) (hk : ∀ q : Nat, q < H.size → ¬ cA 6 (adp ad 1 25) H.size q → H1[q]? = H[q]?) (hP1 : va_P D vwCl (gw T (adp ad 1 25) (upd (upd (gwI I 0 6) 0 (gwI I 0 6 2)) 1 (gwI I 0 6 3)) (updR (updR (gwR R 0 6) 0 (gwR R 0 6 2)) 1 (gwR R 0 6 3))) H1) : va_P D vwCl (cw T ad (tkI I 0 6) (tkR R 0 6)) H1 := by
  have hD : va_D (fun _ => True) (cw T ad I R) := cw_D hAD (fun _ _ => trivial)
  obtain ⟨h2, -⟩ := va_join (wr := [(ad 0, .inr (3, [.ref (ad 1), .ref (ad 4), .int (I 0), .ref (ad 5), .ref (ad 7), .ref (ad 9)])), (ad 4, .inl (T 3, 2, .inr (.inr (.inr (.inr (fun j => some (ad (28 + 3 * j)))))))), (ad 5, .inr (1, [.ref (ad 6), .int (I 1), .int (I 2)])), (ad 6, .inl (T 3, 6, .inr (.inr (.inr (.inr (fun j => some (ad (10 + 3 * j)))))))), (ad 7, .inr (2, [.ref (ad 8), .int (I 3)])), (ad 8, .inl (T 0, 60, .inl (R 18))), (ad 9, .inl (T 1, 8, .inl (R 19))), (ad 10, .inr (0, [.ref (ad 11), .ref (ad 12), .int (I 6), .int (I 7)])), (ad 11, .inl (T 1, 8, .inl (R 2))), (ad 12, .inl (T 1, 8, .inl (R 3))), (ad 13, .inr (0, [.ref (ad 14), .ref (ad 15), .int (I 8), .int (I 9)])), (ad 14, .inl (T 1, 8, .inl (R 4))), (ad 15, .inl (T 1, 8, .inl (R 5))), (ad 16, .inr (0, [.ref (ad 17), .ref (ad 18), .int (I 10), .int (I 11)])), (ad 17, .inl (T 1, 8, .inl (R 6))), (ad 18, .inl (T 1, 8, .inl (R 7))), (ad 19, .inr (0, [.ref (ad 20), .ref (ad 21), .int (I 12), .int (I 13)])), (ad 20, .inl (T 1, 8, .inl (R 8))), (ad 21, .inl (T 1, 8, .inl (R 9))), (ad 22, .inr (0, [.ref (ad 23), .ref (ad 24), .int (I 14), .int (I 15)])), (ad 23, .inl (T 1, 8, .inl (R 10))), (ad 24, .inl (T 1, 8, .inl (R 11))), (ad 28, .inr (0, [.ref (ad 29), .ref (ad 30), .int (I 18), .int (I 19)])), (ad 29, .inl (T 1, 8, .inl (R 14))), (ad 30, .inl (T 1, 8, .inl (R 15))), (ad 31, .inr (0, [.ref (ad 32), .ref (ad 33), .int (I 20), .int (I 21)])), (ad 32, .inl (T 1, 8, .inl (R 16))), (ad 33, .inl (T 1, 8, .inl (R 17)))]) hP hD [1, 2, 3, 25, 26, 27] [0, 4, 5, 6, 7, 8, 9, 10, 11, 12, 13, 14, 15, 16, 17, 18, 19, 20, 21, 22, 23, 24, 28, 29, 30, 31, 32, 33] (wc := gw T (adp ad 1 25) (gwI I 0 6) (gwR R 0 6)) rfl rfl (by decide) (by decide) (fun q h1 h2 => hk q h1 (fun h3 => h2 (gw_cA h3))) (fun _ _ => trivial) hP1 (gw_D (adp_AD hAD (by decide) (by decide) (by decide)) (fun k hk => gw_cA (cA_in hk)))
  exact h2.sub [0, 28, 29, 30, 1, 2, 3, 4, 5, 6, 7, 8, 9, 10, 11, 12, 13, 14, 15, 16, 17, 18, 19, 20, 21, 31, 32, 33, 22, 23, 24, 25, 26, 27] rfl
theorem tk_of_7_0 (hP : va_P D vwCl (cw T ad I R) H) : va_P D vwCl (gw T (adp ad 28 1) (gwI I 7 0) (gwR R 7 0)) H := hP.sub [28, 29, 30, 1, 2, 3] rfl
theorem tk_7_0 (hAD : AD 34 ad) (hP : va_P D vwCl (cw T ad I R) H) (hk : ∀ q : Nat, q < H.size → ¬ cA 6 (adp ad 28 1) H.size q → H1[q]? = H[q]?) (hP1 : va_P D vwCl (gw T (adp ad 28 1) (upd (upd (gwI I 7 0) 0 (gwI I 7 0 2)) 1 (gwI I 7 0 3)) (updR (updR (gwR R 7 0) 0 (gwR R 7 0 2)) 1 (gwR R 7 0 3))) H1) : va_P D vwCl (cw T ad (tkI I 7 0) (tkR R 7 0)) H1 := by
  have hD : va_D (fun _ => True) (cw T ad I R) := cw_D hAD (fun _ _ => trivial)
  obtain ⟨h2, -⟩ := va_join (wr := [(ad 0, .inr (3, [.ref (ad 1), .ref (ad 4), .int (I 0), .ref (ad 5), .ref (ad 7), .ref (ad 9)])), (ad 4, .inl (T 3, 2, .inr (.inr (.inr (.inr (fun j => some (ad (28 + 3 * j)))))))), (ad 5, .inr (1, [.ref (ad 6), .int (I 1), .int (I 2)])), (ad 6, .inl (T 3, 6, .inr (.inr (.inr (.inr (fun j => some (ad (10 + 3 * j)))))))), (ad 7, .inr (2, [.ref (ad 8), .int (I 3)])), (ad 8, .inl (T 0, 60, .inl (R 18))), (ad 9, .inl (T 1, 8, .inl (R 19))), (ad 10, .inr (0, [.ref (ad 11), .ref (ad 12), .int (I 6), .int (I 7)])), (ad 11, .inl (T 1, 8, .inl (R 2))), (ad 12, .inl (T 1, 8, .inl (R 3))), (ad 13, .inr (0, [.ref (ad 14), .ref (ad 15), .int (I 8), .int (I 9)])), (ad 14, .inl (T 1, 8, .inl (R 4))), (ad 15, .inl (T 1, 8, .inl (R 5))), (ad 16, .inr (0, [.ref (ad 17), .ref (ad 18), .int (I 10), .int (I 11)])), (ad 17, .inl (T 1, 8, .inl (R 6))), (ad 18, .inl (T 1, 8, .inl (R 7))), (ad 19, .inr (0, [.ref (ad 20), .ref (ad 21), .int (I 12), .int (I 13)])), (ad 20, .inl (T 1, 8, .inl (R 8))), (ad 21, .inl (T 1, 8, .inl (R 9))), (ad 22, .inr (0, [.ref (ad 23), .ref (ad 24), .int (I 14), .int (I 15)])), (ad 23, .inl (T 1, 8, .inl (R 10))), (ad 24, .inl (T 1, 8, .inl (R 11))), (ad 25, .inr (0, [.ref (ad 26), .ref (ad 27), .int (I 16), .int (I 17)])), (ad 26, .inl (T 1, 8, .inl (R 12))), (ad 27, .inl (T 1, 8, .inl (R 13))), (ad 31, .inr (0, [.ref (ad 32), .ref (ad 33), .int (I 20), .int (I 21)])), (ad 32, .inl (T 1, 8, .inl (R 16))), (ad 33, .inl (T 1, 8, .inl (R 17)))]) hP hD [28, 29, 30, 1, 2, 3] [0, 4, 5, 6, 7, 8, 9, 10, 11, 12, 13, 14, 15, 16, 17, 18, 19, 20, 21, 22, 23, 24, 25, 26, 27, 31, 32, 33] (wc := gw T (adp ad 28 1) (gwI I 7 0) (gwR R 7 0)) rfl rfl (by decide) (by decide) (fun q h1 h2 => hk q h1 (fun h3 => h2 (gw_cA h3))) (fun _ _ => trivial) hP1 (gw_D (adp_AD hAD (by decide) (by decide) (by decide)) (fun k hk => gw_cA (cA_in hk)))
  exact h2.sub [0, 31, 32, 33, 1, 2, 3, 4, 5, 6, 7, 8, 9, 10, 11, 12, 13, 14, 15, 16, 17, 18, 19, 20, 21, 22, 23, 24, 28, 29, 30, 25, 26, 27] rfl
theorem tk_of_8_0 (hP : va_P D vwCl (cw T ad I R) H) : va_P D vwCl (gw T (adp ad 31 1) (gwI I 8 0) (gwR R 8 0)) H := hP.sub [31, 32, 33, 1, 2, 3] rfl
theorem tk_8_0 (hAD : AD 34 ad) (hP : va_P D vwCl (cw T ad I R) H) (hk : ∀ q : Nat, q < H.size → ¬ cA 6 (adp ad 31 1) H.size q → H1[q]? = H[q]?) (hP1 : va_P D vwCl (gw T (adp ad 31 1) (upd (upd (gwI I 8 0) 0 (gwI I 8 0 2)) 1 (gwI I 8 0 3)) (updR (updR (gwR R 8 0) 0 (gwR R 8 0 2)) 1 (gwR R 8 0 3))) H1) : va_P D vwCl (cw T ad (tkI I 8 0) (tkR R 8 0)) H1 := by
  have hD : va_D (fun _ => True) (cw T ad I R) := cw_D hAD (fun _ _ => trivial)
  obtain ⟨h2, -⟩ := va_join (wr := [(ad 0, .inr (3, [.ref (ad 1), .ref (ad 4), .int (I 0), .ref (ad 5), .ref (ad 7), .ref (ad 9)])), (ad 4, .inl (T 3, 2, .inr (.inr (.inr (.inr (fun j => some (ad (28 + 3 * j)))))))), (ad 5, .inr (1, [.ref (ad 6), .int (I 1), .int (I 2)])), (ad 6, .inl (T 3, 6, .inr (.inr (.inr (.inr (fun j => some (ad (10 + 3 * j)))))))), (ad 7, .inr (2, [.ref (ad 8), .int (I 3)])), (ad 8, .inl (T 0, 60, .inl (R 18))), (ad 9, .inl (T 1, 8, .inl (R 19))), (ad 10, .inr (0, [.ref (ad 11), .ref (ad 12), .int (I 6), .int (I 7)])), (ad 11, .inl (T 1, 8, .inl (R 2))), (ad 12, .inl (T 1, 8, .inl (R 3))), (ad 13, .inr (0, [.ref (ad 14), .ref (ad 15), .int (I 8), .int (I 9)])), (ad 14, .inl (T 1, 8, .inl (R 4))), (ad 15, .inl (T 1, 8, .inl (R 5))), (ad 16, .inr (0, [.ref (ad 17), .ref (ad 18), .int (I 10), .int (I 11)])), (ad 17, .inl (T 1, 8, .inl (R 6))), (ad 18, .inl (T 1, 8, .inl (R 7))), (ad 19, .inr (0, [.ref (ad 20), .ref (ad 21), .int (I 12), .int (I 13)])), (ad 20, .inl (T 1, 8, .inl (R 8))), (ad 21, .inl (T 1, 8, .inl (R 9))), (ad 22, .inr (0, [.ref (ad 23), .ref (ad 24), .int (I 14), .int (I 15)])), (ad 23, .inl (T 1, 8, .inl (R 10))), (ad 24, .inl (T 1, 8, .inl (R 11))), (ad 25, .inr (0, [.ref (ad 26), .ref (ad 27), .int (I 16), .int (I 17)])), (ad 26, .inl (T 1, 8, .inl (R 12))), (ad 27, .inl (T 1, 8, .inl (R 13))), (ad 28, .inr (0, [.ref (ad 29), .ref (ad 30), .int (I 18), .int (I 19)])), (ad 29, .inl (T 1, 8, .inl (R 14))), (ad 30, .inl (T 1, 8, .inl (R 15)))]) hP hD [31, 32, 33, 1, 2, 3] [0, 4, 5, 6, 7, 8, 9, 10, 11, 12, 13, 14, 15, 16, 17, 18, 19, 20, 21, 22, 23, 24, 25, 26, 27, 28, 29, 30] (wc := gw T (adp ad 31 1) (gwI I 8 0) (gwR R 8 0)) rfl rfl (by decide) (by decide) (fun q h1 h2 => hk q h1 (fun h3 => h2 (gw_cA h3))) (fun _ _ => trivial) hP1 (gw_D (adp_AD hAD (by decide) (by decide) (by decide)) (fun k hk => gw_cA (cA_in hk)))
  exact h2.sub [0, 31, 32, 33, 1, 2, 3, 4, 5, 6, 7, 8, 9, 10, 11, 12, 13, 14, 15, 16, 17, 18, 19, 20, 21, 22, 23, 24, 25, 26, 27, 28, 29, 30] rfl
theorem tk_of_0_7 (hP : va_P D vwCl (cw T ad I R) H) : va_P D vwCl (gw T (adp ad 1 28) (gwI I 0 7) (gwR R 0 7)) H := hP.sub [1, 2, 3, 28, 29, 30] rfl
theorem tk_0_7 (hAD : AD 34 ad) (hP : va_P D vwCl (cw T ad I R) H) (hk : ∀ q : Nat, q < H.size → ¬ cA 6 (adp ad 1 28) H.size q → H1[q]? = H[q]?) (hP1 : va_P D vwCl (gw T (adp ad 1 28) (upd (upd (gwI I 0 7) 0 (gwI I 0 7 2)) 1 (gwI I 0 7 3)) (updR (updR (gwR R 0 7) 0 (gwR R 0 7 2)) 1 (gwR R 0 7 3))) H1) : va_P D vwCl (cw T ad (tkI I 0 7) (tkR R 0 7)) H1 := by
  have hD : va_D (fun _ => True) (cw T ad I R) := cw_D hAD (fun _ _ => trivial)
  obtain ⟨h2, -⟩ := va_join (wr := [(ad 0, .inr (3, [.ref (ad 1), .ref (ad 4), .int (I 0), .ref (ad 5), .ref (ad 7), .ref (ad 9)])), (ad 4, .inl (T 3, 2, .inr (.inr (.inr (.inr (fun j => some (ad (28 + 3 * j)))))))), (ad 5, .inr (1, [.ref (ad 6), .int (I 1), .int (I 2)])), (ad 6, .inl (T 3, 6, .inr (.inr (.inr (.inr (fun j => some (ad (10 + 3 * j)))))))), (ad 7, .inr (2, [.ref (ad 8), .int (I 3)])), (ad 8, .inl (T 0, 60, .inl (R 18))), (ad 9, .inl (T 1, 8, .inl (R 19))), (ad 10, .inr (0, [.ref (ad 11), .ref (ad 12), .int (I 6), .int (I 7)])), (ad 11, .inl (T 1, 8, .inl (R 2))), (ad 12, .inl (T 1, 8, .inl (R 3))), (ad 13, .inr (0, [.ref (ad 14), .ref (ad 15), .int (I 8), .int (I 9)])), (ad 14, .inl (T 1, 8, .inl (R 4))), (ad 15, .inl (T 1, 8, .inl (R 5))), (ad 16, .inr (0, [.ref (ad 17), .ref (ad 18), .int (I 10), .int (I 11)])), (ad 17, .inl (T 1, 8, .inl (R 6))), (ad 18, .inl (T 1, 8, .inl (R 7))), (ad 19, .inr (0, [.ref (ad 20), .ref (ad 21), .int (I 12), .int (I 13)])), (ad 20, .inl (T 1, 8, .inl (R 8))), (ad 21, .inl (T 1, 8, .inl (R 9))), (ad 22, .inr (0, [.ref (ad 23), .ref (ad 24), .int (I 14), .int (I 15)])), (ad 23, .inl (T 1, 8, .inl (R 10))), (ad 24, .inl (T 1, 8, .inl (R 11))), (ad 25, .inr (0, [.ref (ad 26), .ref (ad 27), .int (I 16), .int (I 17)])), (ad 26, .inl (T 1, 8, .inl (R 12))), (ad 27, .inl (T 1, 8, .inl (R 13))), (ad 31, .inr (0, [.ref (ad 32), .ref (ad 33), .int (I 20), .int (I 21)])), (ad 32, .inl (T 1, 8, .inl (R 16))), (ad 33, .inl (T 1, 8, .inl (R 17)))]) hP hD [1, 2, 3, 28, 29, 30] [0, 4, 5, 6, 7, 8, 9, 10, 11, 12, 13, 14, 15, 16, 17, 18, 19, 20, 21, 22, 23, 24, 25, 26, 27, 31, 32, 33] (wc := gw T (adp ad 1 28) (gwI I 0 7) (gwR R 0 7)) rfl rfl (by decide) (by decide) (fun q h1 h2 => hk q h1 (fun h3 => h2 (gw_cA h3))) (fun _ _ => trivial) hP1 (gw_D (adp_AD hAD (by decide) (by decide) (by decide)) (fun k hk => gw_cA (cA_in hk)))
  exact h2.sub [0, 28, 29, 30, 1, 2, 3, 4, 5, 6, 7, 8, 9, 10, 11, 12, 13, 14, 15, 16, 17, 18, 19, 20, 21, 22, 23, 24, 31, 32, 33, 25, 26, 27] rfl
theorem tk_of_0_8 (hP : va_P D vwCl (cw T ad I R) H) : va_P D vwCl (gw T (adp ad 1 31) (gwI I 0 8) (gwR R 0 8)) H := hP.sub [1, 2, 3, 31, 32, 33] rfl
theorem tk_0_8 (hAD : AD 34 ad) (hP : va_P D vwCl (cw T ad I R) H) (hk : ∀ q : Nat, q < H.size → ¬ cA 6 (adp ad 1 31) H.size q → H1[q]? = H[q]?) (hP1 : va_P D vwCl (gw T (adp ad 1 31) (upd (upd (gwI I 0 8) 0 (gwI I 0 8 2)) 1 (gwI I 0 8 3)) (updR (updR (gwR R 0 8) 0 (gwR R 0 8 2)) 1 (gwR R 0 8 3))) H1) : va_P D vwCl (cw T ad (tkI I 0 8) (tkR R 0 8)) H1 := by
  have hD : va_D (fun _ => True) (cw T ad I R) := cw_D hAD (fun _ _ => trivial)
  obtain ⟨h2, -⟩ := va_join (wr := [(ad 0, .inr (3, [.ref (ad 1), .ref (ad 4), .int (I 0), .ref (ad 5), .ref (ad 7), .ref (ad 9)])), (ad 4, .inl (T 3, 2, .inr (.inr (.inr (.inr (fun j => some (ad (28 + 3 * j)))))))), (ad 5, .inr (1, [.ref (ad 6), .int (I 1), .int (I 2)])), (ad 6, .inl (T 3, 6, .inr (.inr (.inr (.inr (fun j => some (ad (10 + 3 * j)))))))), (ad 7, .inr (2, [.ref (ad 8), .int (I 3)])), (ad 8, .inl (T 0, 60, .inl (R 18))), (ad 9, .inl (T 1, 8, .inl (R 19))), (ad 10, .inr (0, [.ref (ad 11), .ref (ad 12), .int (I 6), .int (I 7)])), (ad 11, .inl (T 1, 8, .inl (R 2))), (ad 12, .inl (T 1, 8, .inl (R 3))), (ad 13, .inr (0, [.ref (ad 14), .ref (ad 15), .int (I 8), .int (I 9)])), (ad 14, .inl (T 1, 8, .inl (R 4))), (ad 15, .inl (T 1, 8, .inl (R 5))), (ad 16, .inr (0, [.ref (ad 17), .ref (ad 18), .int (I 10), .int (I 11)])), (ad 17, .inl (T 1, 8, .inl (R 6))), (ad 18, .inl (T 1, 8, .inl (R 7))), (ad 19, .inr (0, [.ref (ad 20), .ref (ad 21), .int (I 12), .int (I 13)])), (ad 20, .inl (T 1, 8, .inl (R 8))), (ad 21, .inl (T 1, 8, .inl (R 9))), (ad 22, .inr (0, [.ref (ad 23), .ref (ad 24), .int (I 14), .int (I 15)])), (ad 23, .inl (T 1, 8, .inl (R 10))), (ad 24, .inl (T 1, 8, .inl (R 11))), (ad 25, .inr (0, [.ref (ad 26), .ref (ad 27), .int (I 16), .int (I 17)])), (ad 26, .inl (T 1, 8, .inl (R 12))), (ad 27, .inl (T 1, 8, .inl (R 13))), (ad 28, .inr (0, [.ref (ad 29), .ref (ad 30), .int (I 18), .int (I 19)])), (ad 29, .inl (T 1, 8, .inl (R 14))), (ad 30, .inl (T 1, 8, .inl (R 15)))]) hP hD [1, 2, 3, 31, 32, 33] [0, 4, 5, 6, 7, 8, 9, 10, 11, 12, 13, 14, 15, 16, 17, 18, 19, 20, 21, 22, 23, 24, 25, 26, 27, 28, 29, 30] (wc := gw T (adp ad 1 31) (gwI I 0 8) (gwR R 0 8)) rfl rfl (by decide) (by decide) (fun q h1 h2 => hk q h1 (fun h3 => h2 (gw_cA h3))) (fun _ _ => trivial) hP1 (gw_D (adp_AD hAD (by decide) (by decide) (by decide)) (fun k hk => gw_cA (cA_in hk)))
  exact h2.sub [0, 28, 29, 30, 1, 2, 3, 4, 5, 6, 7, 8, 9, 10, 11, 12, 13, 14, 15, 16, 17, 18, 19, 20, 21, 22, 23, 24, 25, 26, 27, 31, 32, 33] rfl
end

set_option maxHeartbeats 4000000 in
set_option maxRecDepth 100000 in
theorem c_X4_append (l : Launch) (D : va_G) (T : Nat → ClassId) (ad : Nat → Nat) (I : Nat → Int32) (R : Nat → Nat → Int32) (sz : Nat) (len : Nat) (q : Nat) (hAD : AD 7 ad) (hlen : len < 60) (hI2 : I 2 = nI len) (hq1 : 33 ≤ q) (hq2 : q ≤ 126) : Met l yX4_append wsX4_append ({ frames := 1, cells := 0, slots := 0, locals := 22 }) (va_Pc [.ref (ad 0), .int (nI q)] (MB D T ad I R sz)) (va_Qi (fun r (u9 : Unit) => r = (nI (len + 1)) ∧ True) (fun (u9 : Unit) t => va_P D vwCl (mw T ad (upd (upd I 0 0) 2 (nI (len + 1))) (updR R 4 (upd (R 4) len (nI q)))) t.heap) (cA 7 ad sz)) 0 0 (cA 7 ad sz) := by
  refine Met.ofW (cc := cX4_append) (maxL := 2) (ret := (some .int)) (by decide) rfl ?_
  intro p e s m args_ below meth c s₁ B hml hv
  obtain ⟨rfl, hsz, hP, hK⟩ := hv
  have hx := B.exec
  have hb := B.bytes
  have hr := B.returns
  have hts := atoms_spec (ws := wsX4_append) B.pre
  have hown : s.vm.findClass RX4 = some m.cls := findClass_of_methodNamed B.named
  have hlocks := B.notSynchronized
  have hinX4 : ∀ w ∈ u_ws RX4 TX4 12, w ∈ wsX4_append := by decide +kernel
  subst hsz
  have hS : va_S (cA 7 ad s.heap.size) s.heap s.heap [] := va_S.rf
  have hD : ∀ I R, va_D (cA 7 ad s.heap.size) (mw T ad I R) := fun I R => mw_D hAD (fun k hk => cA_in hk)
  have hl := lv_entry ([.ref (ad 0), .int (nI q)]) (n := 2) (Nat.le_of_ble_eq_true rfl)
  rw [lg_entry_eq]
  generalize (lg_sl ([.ref (ad 0), .int (nI q)]) ++ List.replicate (2 - (lg_sl ([.ref (ad 0), .int (nI q)])).length) Slot.unset).toArray = ls at hl ⊢
  have hl : lv_has ls 2 [(0, .ref (ad 0)), (1, .int (nI q))] := hl
  refine lv_aload_n hx hb dX4_append_0 rfl (lv_at hl 0 rfl) ?_
  refine lv_iload_n hx hb dX4_append_1 rfl (lv_at hl 1 rfl) ?_
  refine lv_bipush (v := 33) hx hb dX4_append_2 (by decide) ?_
  refine lv_bipush (v := 126) hx hb dX4_append_4 (by decide) ?_
  refine cx_ri (va_runS (As := [.int (nI q), .int 33, .int 126]) (rest := [.ref (ad 0)]) ⟨hx, hb, hml, hown, hts⟩ (c_X4_in l  (nI q) 33 126) (va_cwS 3 hts gX4_append_X4_in rfl rfl rfl (by decide +kernel) ⟨Nat.le_of_ble_eq_true rfl, Nat.le_of_ble_eq_true rfl⟩) ⟨pc_blind, (fun U hU hW => ⟨rfl, trivial⟩)⟩ rfl rfl hl.1 rfl (lv_room (Nat.le_of_ble_eq_true rfl)) dX4_append_6 ⟨Nat.le_of_ble_eq_true rfl, Nat.le_of_ble_eq_true rfl⟩) hS hP (fun H locs hP hS => ?_)
  refine cx_top (show (inI (nI q) 33 126) = 1 from in_of0 (out_q hq1 hq2)) ?_
  refine lv_if_ne (tgt := 16) hx hb dX4_append_9 (by decide) (fun c_9 => ?_) (fun c_9 => absurd c_9 (by decide))
  refine lv_aload_n hx hb dX4_append_16 rfl (lv_at hl 0 rfl) ?_
  refine va_get (D := D) (ci := 4) (v := .int (I 2)) (C := RX4) (T := TX4) (N := 12) hx hb hts hinX4 hown hK hP 0 mw_0 rfl 7 (by decide) (hts (.fieldLink RX4 74 "SquareGearsModel" "length" "I") (by decide +kernel)) (fun _ h9 => h9) rfl dX4_append_17 ?_
  refine cx_top (show (I 2) = (nI len) from hI2) ?_
  refine lv_bipush (v := 60) hx hb dX4_append_20 (by decide) ?_
  refine lv_icmp_ne (tgt := 29) hx hb dX4_append_22 (by decide) (fun c_22 => ?_) (fun c_22 => ?_)
  · have c_22 : ¬ (len = 60) := fun h => c_22 ((nI_eq (a := len) (b := 60) (by omega) (by omega)).mpr h)
    refine lv_iconst (v := 0) hx hb dX4_append_29 (by decide) ?_
    refine cx_put (D := D) (ci := 4) (v := 0) (ty := .int) (C := RX4) (T := TX4) (N := 12) hx hb hts hinX4 tyX4 tyX4_ok nmX4 hown hK hP (hD _ _) hS 0 mw_0 rfl 0 (by decide) (hts (.fieldLink RX4 29 "SquareGearsModel" "thrown" "I") (by decide +kernel)) (fun _ h9 => h9) rfl (by decide +kernel) rfl rfl (Nat.le_of_ble_eq_true rfl) mw_I0 dX4_append_30 (fun H locs hP hS => ?_)
    refine lv_aload_n hx hb dX4_append_33 rfl (lv_at hl 0 rfl) ?_
    refine va_get (D := D) (ci := 4) (v := .int 0) (C := RX4) (T := TX4) (N := 12) hx hb hts hinX4 hown hK hP 0 mw_0 rfl 0 (by decide) (hts (.fieldLink RX4 29 "SquareGearsModel" "thrown" "I") (by decide +kernel)) (fun _ h9 => h9) rfl dX4_append_34 ?_
    refine lv_if_le (tgt := 42) hx hb dX4_append_37 (by decide) (fun c_37 => ?_) (fun c_37 => absurd c_37 (by decide))
    refine lv_aload_n hx hb dX4_append_42 rfl (lv_at hl 0 rfl) ?_
    refine va_get (D := D) (ci := 4) (v := .ref (ad 5)) (C := RX4) (T := TX4) (N := 12) hx hb hts hinX4 hown hK hP 0 mw_0 rfl 6 (by decide) (hts (.fieldLink RX4 23 "SquareGearsModel" "text" "[I") (by decide +kernel)) (fun _ h9 => h9) rfl dX4_append_43 ?_
    refine lv_aload_n hx hb dX4_append_46 rfl (lv_at hl 0 rfl) ?_
    refine va_get (D := D) (ci := 4) (v := .int (I 2)) (C := RX4) (T := TX4) (N := 12) hx hb hts hinX4 hown hK hP 0 mw_0 rfl 7 (by decide) (hts (.fieldLink RX4 74 "SquareGearsModel" "length" "I") (by decide +kernel)) (fun _ h9 => h9) rfl dX4_append_47 ?_
    refine cx_top (show (I 2) = (nI len) from hI2) ?_
    refine lv_iload_n hx hb dX4_append_50 rfl (lv_at hl 1 rfl) ?_
    refine cx_iast (k := len) hx hb hK hP (hD _ _) hS 5 1 mw_5 rfl (by omega) (by decide) mw_R4 dX4_append_51 (fun H locs hP hS => ?_)
    refine lv_aload_n hx hb dX4_append_52 rfl (lv_at hl 0 rfl) ?_
    refine lv_dup hx hb dX4_append_53 rfl ?_
    refine va_get (D := D) (ci := 4) (v := .int (I 2)) (C := RX4) (T := TX4) (N := 12) hx hb hts hinX4 hown hK hP 0 mw_0 rfl 7 (by decide) (hts (.fieldLink RX4 74 "SquareGearsModel" "length" "I") (by decide +kernel)) (fun _ h9 => h9) rfl dX4_append_54 ?_
    refine cx_top (show (I 2) = (nI len) from hI2) ?_
    refine lv_iconst (v := 1) hx hb dX4_append_57 (by decide) ?_
    refine lv_iadd hx hb dX4_append_58 ?_
    refine cx_top (nI_add len 1) ?_
    refine cx_put (D := D) (ci := 4) (v := (nI (len + 1))) (ty := .int) (C := RX4) (T := TX4) (N := 12) hx hb hts hinX4 tyX4 tyX4_ok nmX4 hown hK hP (hD _ _) hS 0 mw_0 rfl 7 (by decide) (hts (.fieldLink RX4 74 "SquareGearsModel" "length" "I") (by decide +kernel)) (fun _ h9 => h9) rfl (by decide +kernel) rfl rfl (Nat.le_of_ble_eq_true rfl) mw_I2 dX4_append_59 (fun H locs hP hS => ?_)
    refine lv_aload_n hx hb dX4_append_62 rfl (lv_at hl 0 rfl) ?_
    refine va_get (D := D) (ci := 4) (v := .int (nI ((len + 1)))) (C := RX4) (T := TX4) (N := 12) hx hb hts hinX4 hown hK hP 0 mw_0 rfl 7 (by decide) (hts (.fieldLink RX4 74 "SquareGearsModel" "length" "I") (by decide +kernel)) (fun _ h9 => h9) rfl dX4_append_63 ?_
    exact W.iret (v := (nI ((len + 1)))) hx hb hr (fun t ht hW => ⟨⟨(nI ((len + 1))), (), rfl, ⟨rfl, trivial⟩, by show va_P _ _ _ _; rw [ht]; exact hP⟩, hS.F ht⟩) hS.2.2 dX4_append_66
  · have c_22 : len = 60 := (nI_eq (a := len) (b := 60) (by omega) (by omega)).mp c_22
    exact absurd c_22 (by omega)
set_option maxHeartbeats 4000000 in
set_option maxRecDepth 100000 in
theorem c_X4_clearBuffer (l : Launch) (D : va_G) (T : Nat → ClassId) (ad : Nat → Nat) (I : Nat → Int32) (R : Nat → Nat → Int32) (sz : Nat) (hAD : AD 7 ad) : Met l yX4_clearBuffer wsX4_clearBuffer ({ frames := 0, cells := 0, slots := 0, locals := 0 }) (va_Pc [.ref (ad 0)] (MB D T ad I R sz)) (va_Qi (fun r (u9 : Unit) => r = (I 2) ∧ True) (fun (u9 : Unit) t => va_P D vwCl (mw T ad (upd (upd I 0 0) 2 0) R) t.heap) (cA 7 ad sz)) 0 0 (cA 7 ad sz) := by
  refine Met.ofW (cc := cX4_clearBuffer) (maxL := 2) (ret := (some .int)) (by decide) rfl ?_
  intro p e s m args_ below meth c s₁ B hml hv
  obtain ⟨rfl, hsz, hP, hK⟩ := hv
  have hx := B.exec
  have hb := B.bytes
  have hr := B.returns
  have hts := atoms_spec (ws := wsX4_clearBuffer) B.pre
  have hown : s.vm.findClass RX4 = some m.cls := findClass_of_methodNamed B.named
  have hlocks := B.notSynchronized
  have hinX4 : ∀ w ∈ u_ws RX4 TX4 12, w ∈ wsX4_clearBuffer := by decide +kernel
  subst hsz
  have hS : va_S (cA 7 ad s.heap.size) s.heap s.heap [] := va_S.rf
  have hD : ∀ I R, va_D (cA 7 ad s.heap.size) (mw T ad I R) := fun I R => mw_D hAD (fun k hk => cA_in hk)
  have hl := lv_entry ([.ref (ad 0)]) (n := 2) (Nat.le_of_ble_eq_true rfl)
  rw [lg_entry_eq]
  generalize (lg_sl ([.ref (ad 0)]) ++ List.replicate (2 - (lg_sl ([.ref (ad 0)])).length) Slot.unset).toArray = ls at hl ⊢
  have hl : lv_has ls 2 [(0, .ref (ad 0))] := hl
  refine lv_aload_n hx hb dX4_clearBuffer_0 rfl (lv_at hl 0 rfl) ?_
  refine lv_iconst (v := 0) hx hb dX4_clearBuffer_1 (by decide) ?_
  refine cx_put (D := D) (ci := 4) (v := 0) (ty := .int) (C := RX4) (T := TX4) (N := 12) hx hb hts hinX4 tyX4 tyX4_ok nmX4 hown hK hP (hD _ _) hS 0 mw_0 rfl 0 (by decide) (hts (.fieldLink RX4 29 "SquareGearsModel" "thrown" "I") (by decide +kernel)) (fun _ h9 => h9) rfl (by decide +kernel) rfl rfl (Nat.le_of_ble_eq_true rfl) mw_I0 dX4_clearBuffer_2 (fun H locs hP hS => ?_)
  refine lv_aload_n hx hb dX4_clearBuffer_5 rfl (lv_at hl 0 rfl) ?_
  refine va_get (D := D) (ci := 4) (v := .int (I 2)) (C := RX4) (T := TX4) (N := 12) hx hb hts hinX4 hown hK hP 0 mw_0 rfl 7 (by decide) (hts (.fieldLink RX4 74 "SquareGearsModel" "length" "I") (by decide +kernel)) (fun _ h9 => h9) rfl dX4_clearBuffer_6 ?_
  refine lv_istore_n (lv' := [(1, .int (I 2)), (0, .ref (ad 0))]) hx hb dX4_clearBuffer_9 rfl hl (by decide) rfl (fun ls hl => ?_)
  refine lv_aload_n hx hb dX4_clearBuffer_10 rfl (lv_at hl 1 rfl) ?_
  refine lv_iconst (v := 0) hx hb dX4_clearBuffer_11 (by decide) ?_
  refine cx_put (D := D) (ci := 4) (v := 0) (ty := .int) (C := RX4) (T := TX4) (N := 12) hx hb hts hinX4 tyX4 tyX4_ok nmX4 hown hK hP (hD _ _) hS 0 mw_0 rfl 7 (by decide) (hts (.fieldLink RX4 74 "SquareGearsModel" "length" "I") (by decide +kernel)) (fun _ h9 => h9) rfl (by decide +kernel) rfl rfl (Nat.le_of_ble_eq_true rfl) mw_I2 dX4_clearBuffer_12 (fun H locs hP hS => ?_)
  refine lv_iload_n hx hb dX4_clearBuffer_15 rfl (lv_at hl 0 rfl) ?_
  exact W.iret (v := (I 2)) hx hb hr (fun t ht hW => ⟨⟨(I 2), (), rfl, ⟨rfl, trivial⟩, by show va_P _ _ _ _; rw [ht]; exact hP⟩, hS.F ht⟩) hS.2.2 dX4_clearBuffer_16
set_option maxHeartbeats 4000000 in
set_option maxRecDepth 100000 in
theorem c_X4_undo (l : Launch) (D : va_G) (T : Nat → ClassId) (ad : Nat → Nat) (I : Nat → Int32) (R : Nat → Nat → Int32) (sz : Nat) (sv : Nat) (hAD : AD 7 ad) (hsv6 : sv ≤ 6) (hsv : I 1 = nI sv) (hsv0 : 0 < sv) : Met l yX4_undo wsX4_undo ({ frames := 0, cells := 0, slots := 0, locals := 0 }) (va_Pc [.ref (ad 0)] (MB D T ad I R sz)) (va_Qi (fun r (u9 : Unit) => r = (nI (sv - 1)) ∧ True) (fun (u9 : Unit) t => va_P D vwCl (mw T ad (upd (upd I 0 0) 1 (nI (sv - 1))) (updR R 0 (fun j => R 1 (25 * (sv - 1) + j)))) t.heap) (cA 7 ad sz)) 0 0 (cA 7 ad sz) := by
  refine Met.ofW (cc := cX4_undo) (maxL := 2) (ret := (some .int)) (by decide) rfl ?_
  intro p e s m args_ below meth c s₁ B hml hv
  obtain ⟨rfl, hsz, hP, hK⟩ := hv
  have hx := B.exec
  have hb := B.bytes
  have hr := B.returns
  have hts := atoms_spec (ws := wsX4_undo) B.pre
  have hown : s.vm.findClass RX4 = some m.cls := findClass_of_methodNamed B.named
  have hlocks := B.notSynchronized
  have hinX4 : ∀ w ∈ u_ws RX4 TX4 12, w ∈ wsX4_undo := by decide +kernel
  subst hsz
  have hS : va_S (cA 7 ad s.heap.size) s.heap s.heap [] := va_S.rf
  have hD : ∀ I R, va_D (cA 7 ad s.heap.size) (mw T ad I R) := fun I R => mw_D hAD (fun k hk => cA_in hk)
  have hl := lv_entry ([.ref (ad 0)]) (n := 2) (Nat.le_of_ble_eq_true rfl)
  rw [lg_entry_eq]
  generalize (lg_sl ([.ref (ad 0)]) ++ List.replicate (2 - (lg_sl ([.ref (ad 0)])).length) Slot.unset).toArray = ls at hl ⊢
  have hl : lv_has ls 2 [(0, .ref (ad 0))] := hl
  refine lv_aload_n hx hb dX4_undo_0 rfl (lv_at hl 0 rfl) ?_
  refine lv_aload_n hx hb dX4_undo_1 rfl (lv_at hl 0 rfl) ?_
  refine va_get (D := D) (ci := 4) (v := .int (I 1)) (C := RX4) (T := TX4) (N := 12) hx hb hts hinX4 hown hK hP 0 mw_0 rfl 3 (by decide) (hts (.fieldLink RX4 48 "SquareGearsModel" "saves" "I") (by decide +kernel)) (fun _ h9 => h9) rfl dX4_undo_2 ?_
  refine cx_top (show (I 1) = (nI sv) from hsv) ?_
  refine lv_if_ne (tgt := 12) hx hb dX4_undo_5 (by decide) (fun c_5 => ?_) (fun c_5 => ?_)
  · have c_5 : ¬ (sv = 0) := fun h => c_5 ((nI_eq (a := sv) (b := 0) (by omega) (by omega)).mpr h)
    refine lv_iconst (v := 0) hx hb dX4_undo_12 (by decide) ?_
    refine cx_put (D := D) (ci := 4) (v := 0) (ty := .int) (C := RX4) (T := TX4) (N := 12) hx hb hts hinX4 tyX4 tyX4_ok nmX4 hown hK hP (hD _ _) hS 0 mw_0 rfl 0 (by decide) (hts (.fieldLink RX4 29 "SquareGearsModel" "thrown" "I") (by decide +kernel)) (fun _ h9 => h9) rfl (by decide +kernel) rfl rfl (Nat.le_of_ble_eq_true rfl) mw_I0 dX4_undo_13 (fun H locs hP hS => ?_)
    refine lv_aload_n hx hb dX4_undo_16 rfl (lv_at hl 0 rfl) ?_
    refine va_get (D := D) (ci := 4) (v := .int 0) (C := RX4) (T := TX4) (N := 12) hx hb hts hinX4 hown hK hP 0 mw_0 rfl 0 (by decide) (hts (.fieldLink RX4 29 "SquareGearsModel" "thrown" "I") (by decide +kernel)) (fun _ h9 => h9) rfl dX4_undo_17 ?_
    refine lv_if_le (tgt := 25) hx hb dX4_undo_20 (by decide) (fun c_20 => ?_) (fun c_20 => absurd c_20 (by decide))
    refine lv_aload_n hx hb dX4_undo_25 rfl (lv_at hl 0 rfl) ?_
    refine lv_dup hx hb dX4_undo_26 rfl ?_
    refine va_get (D := D) (ci := 4) (v := .int (I 1)) (C := RX4) (T := TX4) (N := 12) hx hb hts hinX4 hown hK hP 0 mw_0 rfl 3 (by decide) (hts (.fieldLink RX4 48 "SquareGearsModel" "saves" "I") (by decide +kernel)) (fun _ h9 => h9) rfl dX4_undo_27 ?_
    refine cx_top (show (I 1) = (nI sv) from hsv) ?_
    refine lv_iconst (v := 1) hx hb dX4_undo_30 (by decide) ?_
    refine lv_isub hx hb dX4_undo_31 ?_
    refine cx_top (pk_sub (a := sv) (b := 1) (by omega)) ?_
    refine cx_put (D := D) (ci := 4) (v := (nI (sv - 1))) (ty := .int) (C := RX4) (T := TX4) (N := 12) hx hb hts hinX4 tyX4 tyX4_ok nmX4 hown hK hP (hD _ _) hS 0 mw_0 rfl 3 (by decide) (hts (.fieldLink RX4 48 "SquareGearsModel" "saves" "I") (by decide +kernel)) (fun _ h9 => h9) rfl (by decide +kernel) rfl rfl (Nat.le_of_ble_eq_true rfl) mw_I1 dX4_undo_32 (fun H locs hP hS => ?_)
    refine lv_iconst (v := 0) hx hb dX4_undo_35 (by decide) ?_
    refine lv_istore_n (lv' := [(1, .int 0), (0, .ref (ad 0))]) hx hb dX4_undo_36 rfl hl (by decide) rfl (fun ls hl => ?_)
    suffices ih_37 : ∀ (fu : Nat) (i : Nat) (f : Nat → Int32) (H : Heap) (locs : List Loc) (ls : Array Slot), 25 - i < fu → (i ≤ 25) → (∀ j, j < i → f j = (fun j => R 1 (25 * (sv - 1) + j)) j) → va_P D vwCl (mw T ad (upd (upd I 0 0) 1 (nI (sv - 1))) (updR R 0 f)) H →  va_S (cA 7 ad s.heap.size) s.heap H locs → lv_has ls 2 [(0, .ref (ad 0)), (1, .int (nI i))] → W p l e (headSpec wsX4_undo ({ frames := 0, cells := 0, slots := 0, locals := 0 })).room s m ([.ref (ad 0)] : List Value).toArray below meth c H locs 0 0 (MQ below (va_Qi (fun r (u9 : Unit) => r = (nI (sv - 1)) ∧ True) (fun (u9 : Unit) t => va_P D vwCl (mw T ad (upd (upd I 0 0) 1 (nI (sv - 1))) (updR R 0 (fun j => R 1 (25 * (sv - 1) + j)))) t.heap) (cA 7 ad s.heap.size)) ([.ref (ad 0)] : List Value).toArray s 0 0 (cA 7 ad s.heap.size)) (F0 m 37 ls []) from
      ih_37 _ 0 (R 0) _ _ _ (Nat.lt_succ_self _) (by omega) (fun j h => absurd h (Nat.not_lt_zero j)) (m_self hP) hS (lv_sub hl [1, 0] rfl)
    intro fu
    induction fu with
    | zero => intro i f H locs ls hfu; exact absurd hfu (Nat.not_lt_zero _)
    | succ fu ih_37 =>
      intro i f H locs ls hfu hi hf1 hP hS hl
      refine lv_iload_n hx hb dX4_undo_37 rfl (lv_at hl 1 rfl) ?_
      refine lv_bipush (v := 25) hx hb dX4_undo_38 (by decide) ?_
      refine lv_icmp_ge (tgt := 69) hx hb dX4_undo_40 (by decide) (fun c_40 => ?_) (fun c_40 => ?_)
      · have c_40 : 25 ≤ i := (nI_leI (a := 25) (b := i) (by omega) (by omega)).mp c_40
        obtain rfl : i = 25 := by omega
        have hP := m_fin0 (g := fun j => R 1 (25 * (sv - 1) + j)) hP hf1
        refine lv_aload_n hx hb dX4_undo_69 rfl (lv_at hl 0 rfl) ?_
        refine va_get (D := D) (ci := 4) (v := .int (nI ((sv - 1)))) (C := RX4) (T := TX4) (N := 12) hx hb hts hinX4 hown hK hP 0 mw_0 rfl 3 (by decide) (hts (.fieldLink RX4 48 "SquareGearsModel" "saves" "I") (by decide +kernel)) (fun _ h9 => h9) rfl dX4_undo_70 ?_
        exact W.iret (v := (nI ((sv - 1)))) hx hb hr (fun t ht hW => ⟨⟨(nI ((sv - 1))), (), rfl, ⟨rfl, trivial⟩, by show va_P _ _ _ _; rw [ht]; exact hP⟩, hS.F ht⟩) hS.2.2 dX4_undo_73
      · have c_40 : ¬ (25 ≤ i) := fun h => c_40 ((nI_leI (a := 25) (b := i) (by omega) (by omega)).mpr h)
        refine lv_aload_n hx hb dX4_undo_43 rfl (lv_at hl 0 rfl) ?_
        refine va_get (D := D) (ci := 4) (v := .ref (ad 1)) (C := RX4) (T := TX4) (N := 12) hx hb hts hinX4 hown hK hP 0 mw_0 rfl 1 (by decide) (hts (.fieldLink RX4 7 "SquareGearsModel" "z" "[I") (by decide +kernel)) (fun _ h9 => h9) rfl dX4_undo_44 ?_
        refine lv_iload_n hx hb dX4_undo_47 rfl (lv_at hl 1 rfl) ?_
        refine lv_aload_n hx hb dX4_undo_48 rfl (lv_at hl 0 rfl) ?_
        refine va_get (D := D) (ci := 4) (v := .ref (ad 2)) (C := RX4) (T := TX4) (N := 12) hx hb hts hinX4 hown hK hP 0 mw_0 rfl 2 (by decide) (hts (.fieldLink RX4 13 "SquareGearsModel" "saved" "[I") (by decide +kernel)) (fun _ h9 => h9) rfl dX4_undo_49 ?_
        refine lv_bipush (v := 25) hx hb dX4_undo_52 (by decide) ?_
        refine lv_aload_n hx hb dX4_undo_54 rfl (lv_at hl 0 rfl) ?_
        refine va_get (D := D) (ci := 4) (v := .int (nI ((sv - 1)))) (C := RX4) (T := TX4) (N := 12) hx hb hts hinX4 hown hK hP 0 mw_0 rfl 3 (by decide) (hts (.fieldLink RX4 48 "SquareGearsModel" "saves" "I") (by decide +kernel)) (fun _ h9 => h9) rfl dX4_undo_55 ?_
        refine lv_imul hx hb dX4_undo_58 ?_
        refine cx_top (pk_mul 25 (sv - 1)) ?_
        refine lv_iload_n hx hb dX4_undo_59 rfl (lv_at hl 1 rfl) ?_
        refine lv_iadd hx hb dX4_undo_60 ?_
        refine cx_top (nI_add (25 * (sv - 1)) i) ?_
        refine cx_iald (k := ((25 * (sv - 1)) + i)) hx hb hK hP 2 1 mw_2 rfl (by omega) (by decide) dX4_undo_61 ?_
        refine cx_iast (k := i) hx hb hK hP (hD _ _) hS 1 1 mw_1 rfl (by omega) (by decide) mw_R0 dX4_undo_62 (fun H locs hP hS => ?_)
        refine lv_iinc (k := 1) (v := (nI (i + 1))) (lv' := [(1, .int (nI (i + 1))), (0, .ref (ad 0))]) hx hb dX4_undo_63 hl rfl (nI_add i 1) (by decide) rfl (fun ls hl => ?_)
        refine lv_goto (tgt := 37) hx hb dX4_undo_66 (by decide) ?_
        exact ih_37 (i + 1) (upd f i ((R 1) ((25 * (sv - 1)) + i))) _ _ _ (by omega) (by omega) (up_at hf1 rfl) (m_upd hP) hS (lv_sub hl [1, 0] rfl)
  · have c_5 : sv = 0 := (nI_eq (a := sv) (b := 0) (by omega) (by omega)).mp c_5
    exact absurd c_5 (by omega)
set_option maxHeartbeats 4000000 in
set_option maxRecDepth 100000 in
theorem c_X4_keep (l : Launch) (D : va_G) (T : Nat → ClassId) (ad : Nat → Nat) (I : Nat → Int32) (R : Nat → Nat → Int32) (sz : Nat) (k : Nat) (hAD : AD 7 ad) (hk : k < 2) : Met l yX4_keep wsX4_keep ({ frames := 1, cells := 0, slots := 0, locals := 22 }) (va_Pc [.ref (ad 0), .int (nI k)] (MB D T ad I R sz)) (va_Qi (fun r (g : Nat → Int32) => r = (cnS (R 0) 8) ∧ (∀ j, j < 25 → g (25 * k + j) = R 0 j) ∧ (∀ j, j < 25 * k ∨ 25 * k + 25 ≤ j → g j = R 2 j)) (fun (g : Nat → Int32) t => va_P D vwCl (mw T ad (upd I 0 0) (updR (updR R 2 g) 3 (upd (R 3) k 1))) t.heap) (cA 7 ad sz)) 0 0 (cA 7 ad sz) := by
  refine Met.ofW (cc := cX4_keep) (maxL := 3) (ret := (some .int)) (by decide) rfl ?_
  intro p e s m args_ below meth c s₁ B hml hv
  obtain ⟨rfl, hsz, hP, hK⟩ := hv
  have hx := B.exec
  have hb := B.bytes
  have hr := B.returns
  have hts := atoms_spec (ws := wsX4_keep) B.pre
  have hown : s.vm.findClass RX4 = some m.cls := findClass_of_methodNamed B.named
  have hlocks := B.notSynchronized
  have hinX4 : ∀ w ∈ u_ws RX4 TX4 12, w ∈ wsX4_keep := by decide +kernel
  subst hsz
  have hS : va_S (cA 7 ad s.heap.size) s.heap s.heap [] := va_S.rf
  have hD : ∀ I R, va_D (cA 7 ad s.heap.size) (mw T ad I R) := fun I R => mw_D hAD (fun k hk => cA_in hk)
  have hl := lv_entry ([.ref (ad 0), .int (nI k)]) (n := 3) (Nat.le_of_ble_eq_true rfl)
  rw [lg_entry_eq]
  generalize (lg_sl ([.ref (ad 0), .int (nI k)]) ++ List.replicate (3 - (lg_sl ([.ref (ad 0), .int (nI k)])).length) Slot.unset).toArray = ls at hl ⊢
  have hl : lv_has ls 3 [(0, .ref (ad 0)), (1, .int (nI k))] := hl
  refine lv_aload_n hx hb dX4_keep_0 rfl (lv_at hl 0 rfl) ?_
  refine lv_iload_n hx hb dX4_keep_1 rfl (lv_at hl 1 rfl) ?_
  refine lv_iconst (v := 0) hx hb dX4_keep_2 (by decide) ?_
  refine lv_iconst (v := 1) hx hb dX4_keep_3 (by decide) ?_
  refine cx_ri (va_runS (As := [.int (nI k), .int 0, .int 1]) (rest := [.ref (ad 0)]) ⟨hx, hb, hml, hown, hts⟩ (c_X4_in l  (nI k) 0 1) (va_cwS 3 hts gX4_keep_X4_in rfl rfl rfl (by decide +kernel) ⟨Nat.le_of_ble_eq_true rfl, Nat.le_of_ble_eq_true rfl⟩) ⟨pc_blind, (fun U hU hW => ⟨rfl, trivial⟩)⟩ rfl rfl hl.1 rfl (lv_room (Nat.le_of_ble_eq_true rfl)) dX4_keep_4 ⟨Nat.le_of_ble_eq_true rfl, Nat.le_of_ble_eq_true rfl⟩) hS hP (fun H locs hP hS => ?_)
  refine cx_top (show (inI (nI k) 0 1) = 1 from in_of0 (out_k (n := 1) (by omega) (by decide))) ?_
  refine lv_if_eq (tgt := 14) hx hb dX4_keep_7 (by decide) (fun c_7 => absurd c_7 (by decide)) (fun c_7 => ?_)
  refine lv_iconst (v := 0) hx hb dX4_keep_10 (by decide) ?_
  refine lv_goto (tgt := 15) hx hb dX4_keep_11 (by decide) ?_
  refine cx_put (D := D) (ci := 4) (v := 0) (ty := .int) (C := RX4) (T := TX4) (N := 12) hx hb hts hinX4 tyX4 tyX4_ok nmX4 hown hK hP (hD _ _) hS 0 mw_0 rfl 0 (by decide) (hts (.fieldLink RX4 29 "SquareGearsModel" "thrown" "I") (by decide +kernel)) (fun _ h9 => h9) rfl (by decide +kernel) rfl rfl (Nat.le_of_ble_eq_true rfl) mw_I0 dX4_keep_15 (fun H locs hP hS => ?_)
  refine lv_aload_n hx hb dX4_keep_18 rfl (lv_at hl 0 rfl) ?_
  refine va_get (D := D) (ci := 4) (v := .int 0) (C := RX4) (T := TX4) (N := 12) hx hb hts hinX4 hown hK hP 0 mw_0 rfl 0 (by decide) (hts (.fieldLink RX4 29 "SquareGearsModel" "thrown" "I") (by decide +kernel)) (fun _ h9 => h9) rfl dX4_keep_19 ?_
  refine lv_if_le (tgt := 27) hx hb dX4_keep_22 (by decide) (fun c_22 => ?_) (fun c_22 => absurd c_22 (by decide))
  refine lv_iconst (v := 0) hx hb dX4_keep_27 (by decide) ?_
  refine lv_istore_n (lv' := [(2, .int 0), (0, .ref (ad 0)), (1, .int (nI k))]) hx hb dX4_keep_28 rfl hl (by decide) rfl (fun ls hl => ?_)
  suffices ih_29 : ∀ (fu : Nat) (i : Nat) (g : Nat → Int32) (H : Heap) (locs : List Loc) (ls : Array Slot), 25 - i < fu → (i ≤ 25) → (∀ j, j < i → g (25 * k + j) = R 0 j) → (∀ j, j < 25 * k ∨ 25 * k + i ≤ j → g j = R 2 j) → va_P D vwCl (mw T ad (upd I 0 0) (updR R 2 g)) H →  va_S (cA 7 ad s.heap.size) s.heap H locs → lv_has ls 3 [(0, .ref (ad 0)), (1, .int (nI k)), (2, .int (nI i))] → W p l e (headSpec wsX4_keep ({ frames := 1, cells := 0, slots := 0, locals := 22 })).room s m ([.ref (ad 0), .int (nI k)] : List Value).toArray below meth c H locs 0 0 (MQ below (va_Qi (fun r (g : Nat → Int32) => r = (cnS (R 0) 8) ∧ (∀ j, j < 25 → g (25 * k + j) = R 0 j) ∧ (∀ j, j < 25 * k ∨ 25 * k + 25 ≤ j → g j = R 2 j)) (fun (g : Nat → Int32) t => va_P D vwCl (mw T ad (upd I 0 0) (updR (updR R 2 g) 3 (upd (R 3) k 1))) t.heap) (cA 7 ad s.heap.size)) ([.ref (ad 0), .int (nI k)] : List Value).toArray s 0 0 (cA 7 ad s.heap.size)) (F0 m 29 ls []) from
    ih_29 _ 0 (R 2) _ _ _ (Nat.lt_succ_self _) (by omega) (fun j h => absurd h (Nat.not_lt_zero j)) (fun _ _ => rfl) (m_self hP) hS (lv_sub hl [1, 2, 0] rfl)
  intro fu
  induction fu with
  | zero => intro i g H locs ls hfu; exact absurd hfu (Nat.not_lt_zero _)
  | succ fu ih_29 =>
    intro i g H locs ls hfu hi hg1 hg2 hP hS hl
    refine lv_iload_n hx hb dX4_keep_29 rfl (lv_at hl 2 rfl) ?_
    refine lv_bipush (v := 25) hx hb dX4_keep_30 (by decide) ?_
    refine lv_icmp_ge (tgt := 58) hx hb dX4_keep_32 (by decide) (fun c_32 => ?_) (fun c_32 => ?_)
    · have c_32 : 25 ≤ i := (nI_leI (a := 25) (b := i) (by omega) (by omega)).mp c_32
      obtain rfl : i = 25 := by omega
      refine lv_aload_n hx hb dX4_keep_58 rfl (lv_at hl 0 rfl) ?_
      refine va_get (D := D) (ci := 4) (v := .ref (ad 4)) (C := RX4) (T := TX4) (N := 12) hx hb hts hinX4 hown hK hP 0 mw_0 rfl 5 (by decide) (hts (.fieldLink RX4 19 "SquareGearsModel" "isKept" "[Z") (by decide +kernel)) (fun _ h9 => h9) rfl dX4_keep_59 ?_
      refine lv_iload_n hx hb dX4_keep_62 rfl (lv_at hl 1 rfl) ?_
      refine lv_iconst (v := 1) hx hb dX4_keep_63 (by decide) ?_
      refine cx_zast (k := k) hx hb hK hP (hD _ _) hS 4 2 mw_4 rfl (by omega) (by decide) (rfl) mw_R3 dX4_keep_64 (fun H locs hP hS => ?_)
      refine lv_aload_n hx hb dX4_keep_65 rfl (lv_at hl 0 rfl) ?_
      refine cx_ri (va_runV (As := []) (rest := []) ⟨hx, hb, hml, hown, hts⟩ (c_X4_turning l D T ad (upd I 0 0) (updR (updR R 2 g) 3 (upd (R 3) k 1)) ) (cwV 0 hts gX4_keep_X4_turning rfl rfl rfl (by decide +kernel) ⟨Nat.le_of_ble_eq_true rfl, Nat.le_of_ble_eq_true rfl⟩) ⟨MR.blind, va_recv hK hP (ci := 4) (q0 := 0) rfl mw_0, (MR.pre hP hK rfl)⟩ rfl rfl hl.1 rfl (lv_room (Nat.le_of_ble_eq_true rfl)) dX4_keep_66 ⟨Nat.le_of_ble_eq_true rfl, Nat.le_of_ble_eq_true rfl⟩) hS hP (fun H locs hP hS => ?_)
      exact W.iret (v := (cnS ((R 0)) 8)) hx hb hr (fun t ht hW => ⟨⟨(cnS ((R 0)) 8), g, rfl, ⟨rfl, ⟨hg1, fun j h => hg2 j (by omega)⟩⟩, by show va_P _ _ _ _; rw [ht]; exact hP⟩, hS.F ht⟩) hS.2.2 dX4_keep_69
    · have c_32 : ¬ (25 ≤ i) := fun h => c_32 ((nI_leI (a := 25) (b := i) (by omega) (by omega)).mpr h)
      refine lv_aload_n hx hb dX4_keep_35 rfl (lv_at hl 0 rfl) ?_
      refine va_get (D := D) (ci := 4) (v := .ref (ad 3)) (C := RX4) (T := TX4) (N := 12) hx hb hts hinX4 hown hK hP 0 mw_0 rfl 4 (by decide) (hts (.fieldLink RX4 16 "SquareGearsModel" "slots" "[I") (by decide +kernel)) (fun _ h9 => h9) rfl dX4_keep_36 ?_
      refine lv_bipush (v := 25) hx hb dX4_keep_39 (by decide) ?_
      refine lv_iload_n hx hb dX4_keep_41 rfl (lv_at hl 1 rfl) ?_
      refine lv_imul hx hb dX4_keep_42 ?_
      refine cx_top (pk_mul 25 k) ?_
      refine lv_iload_n hx hb dX4_keep_43 rfl (lv_at hl 2 rfl) ?_
      refine lv_iadd hx hb dX4_keep_44 ?_
      refine cx_top (nI_add (25 * k) i) ?_
      refine lv_aload_n hx hb dX4_keep_45 rfl (lv_at hl 0 rfl) ?_
      refine va_get (D := D) (ci := 4) (v := .ref (ad 1)) (C := RX4) (T := TX4) (N := 12) hx hb hts hinX4 hown hK hP 0 mw_0 rfl 1 (by decide) (hts (.fieldLink RX4 7 "SquareGearsModel" "z" "[I") (by decide +kernel)) (fun _ h9 => h9) rfl dX4_keep_46 ?_
      refine lv_iload_n hx hb dX4_keep_49 rfl (lv_at hl 2 rfl) ?_
      refine cx_iald (k := i) hx hb hK hP 1 1 mw_1 rfl (by omega) (by decide) dX4_keep_50 ?_
      refine cx_iast (k := ((25 * k) + i)) hx hb hK hP (hD _ _) hS 3 1 mw_3 rfl (by omega) (by decide) mw_R2 dX4_keep_51 (fun H locs hP hS => ?_)
      refine lv_iinc (k := 2) (v := (nI (i + 1))) (lv' := [(2, .int (nI (i + 1))), (0, .ref (ad 0)), (1, .int (nI k))]) hx hb dX4_keep_52 hl rfl (nI_add i 1) (by decide) rfl (fun ls hl => ?_)
      refine lv_goto (tgt := 29) hx hb dX4_keep_55 (by decide) ?_
      exact ih_29 (i + 1) (upd g ((25 * k) + i) ((R 0) i)) _ _ _ (by omega) (by omega) (ru_1 hg1 rfl) (fun j h => by unfold upd; rw [if_neg (by omega)]; exact hg2 j (by omega)) (m_upd hP) hS (lv_sub hl [1, 2, 0] rfl)
set_option maxHeartbeats 4000000 in
set_option maxRecDepth 100000 in
theorem c_X4_goBack (l : Launch) (D : va_G) (T : Nat → ClassId) (ad : Nat → Nat) (I : Nat → Int32) (R : Nat → Nat → Int32) (sz : Nat) (sv : Nat) (k : Nat) (hAD : AD 7 ad) (hsv6 : sv ≤ 6) (hsv : I 1 = nI sv) (hk : k < 2) (hkp : R 3 k = 1) : Met l yX4_goBack wsX4_goBack ({ frames := 1, cells := 0, slots := 0, locals := 22 }) (va_Pc [.ref (ad 0), .int (nI k)] (MB D T ad I R sz)) (va_Qi (fun r (f : Nat → Int32) => r = (cnS (fun j => R 2 (25 * k + j)) 8) ∧ recP (R 1) (R 0) sv f) (fun (f : Nat → Int32) t => va_P D vwCl (mw T ad (upd (upd I 0 0) 1 (nI (min (sv + 1) 6))) (updR (updR R 1 f) 0 (fun j => R 2 (25 * k + j)))) t.heap) (cA 7 ad sz)) 0 0 (cA 7 ad sz) := by
  refine Met.ofW (cc := cX4_goBack) (maxL := 3) (ret := (some .int)) (by decide) rfl ?_
  intro p e s m args_ below meth c s₁ B hml hv
  obtain ⟨rfl, hsz, hP, hK⟩ := hv
  have hx := B.exec
  have hb := B.bytes
  have hr := B.returns
  have hts := atoms_spec (ws := wsX4_goBack) B.pre
  have hown : s.vm.findClass RX4 = some m.cls := findClass_of_methodNamed B.named
  have hlocks := B.notSynchronized
  have hinX4 : ∀ w ∈ u_ws RX4 TX4 12, w ∈ wsX4_goBack := by decide +kernel
  subst hsz
  have hS : va_S (cA 7 ad s.heap.size) s.heap s.heap [] := va_S.rf
  have hD : ∀ I R, va_D (cA 7 ad s.heap.size) (mw T ad I R) := fun I R => mw_D hAD (fun k hk => cA_in hk)
  have hl := lv_entry ([.ref (ad 0), .int (nI k)]) (n := 3) (Nat.le_of_ble_eq_true rfl)
  rw [lg_entry_eq]
  generalize (lg_sl ([.ref (ad 0), .int (nI k)]) ++ List.replicate (3 - (lg_sl ([.ref (ad 0), .int (nI k)])).length) Slot.unset).toArray = ls at hl ⊢
  have hl : lv_has ls 3 [(0, .ref (ad 0)), (1, .int (nI k))] := hl
  refine lv_aload_n hx hb dX4_goBack_0 rfl (lv_at hl 0 rfl) ?_
  refine lv_iload_n hx hb dX4_goBack_1 rfl (lv_at hl 1 rfl) ?_
  refine lv_iconst (v := 0) hx hb dX4_goBack_2 (by decide) ?_
  refine lv_iconst (v := 1) hx hb dX4_goBack_3 (by decide) ?_
  refine cx_ri (va_runS (As := [.int (nI k), .int 0, .int 1]) (rest := [.ref (ad 0)]) ⟨hx, hb, hml, hown, hts⟩ (c_X4_in l  (nI k) 0 1) (va_cwS 3 hts gX4_goBack_X4_in rfl rfl rfl (by decide +kernel) ⟨Nat.le_of_ble_eq_true rfl, Nat.le_of_ble_eq_true rfl⟩) ⟨pc_blind, (fun U hU hW => ⟨rfl, trivial⟩)⟩ rfl rfl hl.1 rfl (lv_room (Nat.le_of_ble_eq_true rfl)) dX4_goBack_4 ⟨Nat.le_of_ble_eq_true rfl, Nat.le_of_ble_eq_true rfl⟩) hS hP (fun H locs hP hS => ?_)
  refine cx_top (show (inI (nI k) 0 1) = 1 from in_of0 (out_k (n := 1) (by omega) (by decide))) ?_
  refine lv_if_ne (tgt := 14) hx hb dX4_goBack_7 (by decide) (fun c_7 => ?_) (fun c_7 => absurd c_7 (by decide))
  refine lv_aload_n hx hb dX4_goBack_14 rfl (lv_at hl 0 rfl) ?_
  refine va_get (D := D) (ci := 4) (v := .ref (ad 4)) (C := RX4) (T := TX4) (N := 12) hx hb hts hinX4 hown hK hP 0 mw_0 rfl 5 (by decide) (hts (.fieldLink RX4 19 "SquareGearsModel" "isKept" "[Z") (by decide +kernel)) (fun _ h9 => h9) rfl dX4_goBack_15 ?_
  refine lv_iload_n hx hb dX4_goBack_18 rfl (lv_at hl 1 rfl) ?_
  refine cx_zald (k := k) hx hb hK hP 4 2 mw_4 rfl (by omega) (by decide) dX4_goBack_19 ?_
  refine cx_top (show ((R 3) k) = 1 from hkp) ?_
  refine lv_if_eq (tgt := 27) hx hb dX4_goBack_20 (by decide) (fun c_20 => absurd c_20 (by decide)) (fun c_20 => ?_)
  refine lv_iconst (v := 0) hx hb dX4_goBack_23 (by decide) ?_
  refine lv_goto (tgt := 28) hx hb dX4_goBack_24 (by decide) ?_
  refine cx_put (D := D) (ci := 4) (v := 0) (ty := .int) (C := RX4) (T := TX4) (N := 12) hx hb hts hinX4 tyX4 tyX4_ok nmX4 hown hK hP (hD _ _) hS 0 mw_0 rfl 0 (by decide) (hts (.fieldLink RX4 29 "SquareGearsModel" "thrown" "I") (by decide +kernel)) (fun _ h9 => h9) rfl (by decide +kernel) rfl rfl (Nat.le_of_ble_eq_true rfl) mw_I0 dX4_goBack_28 (fun H locs hP hS => ?_)
  refine lv_aload_n hx hb dX4_goBack_31 rfl (lv_at hl 0 rfl) ?_
  refine va_get (D := D) (ci := 4) (v := .int 0) (C := RX4) (T := TX4) (N := 12) hx hb hts hinX4 hown hK hP 0 mw_0 rfl 0 (by decide) (hts (.fieldLink RX4 29 "SquareGearsModel" "thrown" "I") (by decide +kernel)) (fun _ h9 => h9) rfl dX4_goBack_32 ?_
  refine lv_if_le (tgt := 40) hx hb dX4_goBack_35 (by decide) (fun c_35 => ?_) (fun c_35 => absurd c_35 (by decide))
  refine lv_aload_n hx hb dX4_goBack_40 rfl (lv_at hl 0 rfl) ?_
  refine cx_wv (va_runV (As := []) (rest := []) ⟨hx, hb, hml, hown, hts⟩ (c_X4_record l D T ad (upd I 0 0) R _ sv (hAD) (hsv6) (hsv)) (cwV 0 hts gX4_goBack_X4_record rfl rfl rfl (by decide +kernel) ⟨Nat.le_of_ble_eq_true rfl, Nat.le_of_ble_eq_true rfl⟩) ⟨MB.blind, va_recv hK hP (ci := 4) (q0 := 0) rfl mw_0, (MB.pre hP hK rfl)⟩ rfl rfl hl.1 rfl (lv_room (Nat.le_of_ble_eq_true rfl)) dX4_goBack_41 ⟨Nat.le_of_ble_eq_true rfl, Nat.le_of_ble_eq_true rfl⟩) hS (cA_le hS.1) (cA_le hS.1) (fun u_41 H locs hu_41 hP hkk hS => ?_)
  refine lv_iconst (v := 0) hx hb dX4_goBack_44 (by decide) ?_
  refine lv_istore_n (lv' := [(2, .int 0), (0, .ref (ad 0)), (1, .int (nI k))]) hx hb dX4_goBack_45 rfl hl (by decide) rfl (fun ls hl => ?_)
  suffices ih_46 : ∀ (fu : Nat) (i : Nat) (f : Nat → Int32) (H : Heap) (locs : List Loc) (ls : Array Slot), 25 - i < fu → (i ≤ 25) → (∀ j, j < i → f j = (fun j => R 2 (25 * k + j)) j) → va_P D vwCl (mw T ad (upd (upd I 0 0) 1 (nI (min (sv + 1) 6))) (updR (updR R 1 u_41) 0 f)) H →  va_S (cA 7 ad s.heap.size) s.heap H locs → lv_has ls 3 [(0, .ref (ad 0)), (1, .int (nI k)), (2, .int (nI i))] → W p l e (headSpec wsX4_goBack ({ frames := 1, cells := 0, slots := 0, locals := 22 })).room s m ([.ref (ad 0), .int (nI k)] : List Value).toArray below meth c H locs 0 0 (MQ below (va_Qi (fun r (f : Nat → Int32) => r = (cnS (fun j => R 2 (25 * k + j)) 8) ∧ recP (R 1) (R 0) sv f) (fun (f : Nat → Int32) t => va_P D vwCl (mw T ad (upd (upd I 0 0) 1 (nI (min (sv + 1) 6))) (updR (updR R 1 f) 0 (fun j => R 2 (25 * k + j)))) t.heap) (cA 7 ad s.heap.size)) ([.ref (ad 0), .int (nI k)] : List Value).toArray s 0 0 (cA 7 ad s.heap.size)) (F0 m 46 ls []) from
    ih_46 _ 0 (R 0) _ _ _ (Nat.lt_succ_self _) (by omega) (fun j h => absurd h (Nat.not_lt_zero j)) (m_self hP) hS (lv_sub hl [1, 2, 0] rfl)
  intro fu
  induction fu with
  | zero => intro i f H locs ls hfu; exact absurd hfu (Nat.not_lt_zero _)
  | succ fu ih_46 =>
    intro i f H locs ls hfu hi hf1 hP hS hl
    refine lv_iload_n hx hb dX4_goBack_46 rfl (lv_at hl 2 rfl) ?_
    refine lv_bipush (v := 25) hx hb dX4_goBack_47 (by decide) ?_
    refine lv_icmp_ge (tgt := 75) hx hb dX4_goBack_49 (by decide) (fun c_49 => ?_) (fun c_49 => ?_)
    · have c_49 : 25 ≤ i := (nI_leI (a := 25) (b := i) (by omega) (by omega)).mp c_49
      obtain rfl : i = 25 := by omega
      have hP := m_fin0 (g := fun j => R 2 (25 * k + j)) hP hf1
      refine lv_aload_n hx hb dX4_goBack_75 rfl (lv_at hl 0 rfl) ?_
      refine cx_ri (va_runV (As := []) (rest := []) ⟨hx, hb, hml, hown, hts⟩ (c_X4_turning l D T ad (upd (upd I 0 0) 1 (nI (min (sv + 1) 6))) (updR (updR R 1 u_41) 0 (fun j => R 2 (25 * k + j))) ) (cwV 0 hts gX4_goBack_X4_turning rfl rfl rfl (by decide +kernel) ⟨Nat.le_of_ble_eq_true rfl, Nat.le_of_ble_eq_true rfl⟩) ⟨MR.blind, va_recv hK hP (ci := 4) (q0 := 0) rfl mw_0, (MR.pre hP hK rfl)⟩ rfl rfl hl.1 rfl (lv_room (Nat.le_of_ble_eq_true rfl)) dX4_goBack_76 ⟨Nat.le_of_ble_eq_true rfl, Nat.le_of_ble_eq_true rfl⟩) hS hP (fun H locs hP hS => ?_)
      exact W.iret (v := (cnS ((fun j => R 2 (25 * k + j))) 8)) hx hb hr (fun t ht hW => ⟨⟨(cnS ((fun j => R 2 (25 * k + j))) 8), u_41, rfl, ⟨rfl, hu_41⟩, by show va_P _ _ _ _; rw [ht]; exact hP⟩, hS.F ht⟩) hS.2.2 dX4_goBack_79
    · have c_49 : ¬ (25 ≤ i) := fun h => c_49 ((nI_leI (a := 25) (b := i) (by omega) (by omega)).mpr h)
      refine lv_aload_n hx hb dX4_goBack_52 rfl (lv_at hl 0 rfl) ?_
      refine va_get (D := D) (ci := 4) (v := .ref (ad 1)) (C := RX4) (T := TX4) (N := 12) hx hb hts hinX4 hown hK hP 0 mw_0 rfl 1 (by decide) (hts (.fieldLink RX4 7 "SquareGearsModel" "z" "[I") (by decide +kernel)) (fun _ h9 => h9) rfl dX4_goBack_53 ?_
      refine lv_iload_n hx hb dX4_goBack_56 rfl (lv_at hl 2 rfl) ?_
      refine lv_aload_n hx hb dX4_goBack_57 rfl (lv_at hl 0 rfl) ?_
      refine va_get (D := D) (ci := 4) (v := .ref (ad 3)) (C := RX4) (T := TX4) (N := 12) hx hb hts hinX4 hown hK hP 0 mw_0 rfl 4 (by decide) (hts (.fieldLink RX4 16 "SquareGearsModel" "slots" "[I") (by decide +kernel)) (fun _ h9 => h9) rfl dX4_goBack_58 ?_
      refine lv_bipush (v := 25) hx hb dX4_goBack_61 (by decide) ?_
      refine lv_iload_n hx hb dX4_goBack_63 rfl (lv_at hl 1 rfl) ?_
      refine lv_imul hx hb dX4_goBack_64 ?_
      refine cx_top (pk_mul 25 k) ?_
      refine lv_iload_n hx hb dX4_goBack_65 rfl (lv_at hl 2 rfl) ?_
      refine lv_iadd hx hb dX4_goBack_66 ?_
      refine cx_top (nI_add (25 * k) i) ?_
      refine cx_iald (k := ((25 * k) + i)) hx hb hK hP 3 1 mw_3 rfl (by omega) (by decide) dX4_goBack_67 ?_
      refine cx_iast (k := i) hx hb hK hP (hD _ _) hS 1 1 mw_1 rfl (by omega) (by decide) mw_R0 dX4_goBack_68 (fun H locs hP hS => ?_)
      refine lv_iinc (k := 2) (v := (nI (i + 1))) (lv' := [(2, .int (nI (i + 1))), (0, .ref (ad 0)), (1, .int (nI k))]) hx hb dX4_goBack_69 hl rfl (nI_add i 1) (by decide) rfl (fun ls hl => ?_)
      refine lv_goto (tgt := 46) hx hb dX4_goBack_72 (by decide) ?_
      exact ih_46 (i + 1) (upd f i ((R 2) ((25 * k) + i))) _ _ _ (by omega) (by omega) (up_at hf1 rfl) (m_upd hP) hS (lv_sub hl [1, 2, 0] rfl)
set_option maxHeartbeats 4000000 in
set_option maxRecDepth 100000 in
theorem c_X4_wheelOf (l : Launch) (D : va_G) (T : Nat → ClassId) (ad : Nat → Nat) (I : Nat → Int32) (R : Nat → Nat → Int32) (sz : Nat) (k : Nat) (w : Nat) (hAD : AD 7 ad) (hk : k < 8) (hw : w < 4) : Met l yX4_wheelOf wsX4_wheelOf ({ frames := 3, cells := 0, slots := 0, locals := 67 }) (va_Pc [.ref (ad 0), .int (nI k), .int (nI w)] (MB D T ad I R sz)) (va_Qi (fun r (u9 : Unit) => r = (wnM (R 0) k w) ∧ True) (fun (u9 : Unit) t => va_P D vwCl (mw T ad (upd I 0 0) R) t.heap) (cA 7 ad sz)) 0 0 (cA 7 ad sz) := by
  refine Met.ofW (cc := cX4_wheelOf) (maxL := 3) (ret := (some .int)) (by decide) rfl ?_
  intro p e s m args_ below meth c s₁ B hml hv
  obtain ⟨rfl, hsz, hP, hK⟩ := hv
  have hx := B.exec
  have hb := B.bytes
  have hr := B.returns
  have hts := atoms_spec (ws := wsX4_wheelOf) B.pre
  have hown : s.vm.findClass RX4 = some m.cls := findClass_of_methodNamed B.named
  have hlocks := B.notSynchronized
  have hinX4 : ∀ w ∈ u_ws RX4 TX4 12, w ∈ wsX4_wheelOf := by decide +kernel
  subst hsz
  have hS : va_S (cA 7 ad s.heap.size) s.heap s.heap [] := va_S.rf
  have hD : ∀ I R, va_D (cA 7 ad s.heap.size) (mw T ad I R) := fun I R => mw_D hAD (fun k hk => cA_in hk)
  have hl := lv_entry ([.ref (ad 0), .int (nI k), .int (nI w)]) (n := 3) (Nat.le_of_ble_eq_true rfl)
  rw [lg_entry_eq]
  generalize (lg_sl ([.ref (ad 0), .int (nI k), .int (nI w)]) ++ List.replicate (3 - (lg_sl ([.ref (ad 0), .int (nI k), .int (nI w)])).length) Slot.unset).toArray = ls at hl ⊢
  have hl : lv_has ls 3 [(0, .ref (ad 0)), (1, .int (nI k)), (2, .int (nI w))] := hl
  refine lv_aload_n hx hb dX4_wheelOf_0 rfl (lv_at hl 0 rfl) ?_
  refine lv_iload_n hx hb dX4_wheelOf_1 rfl (lv_at hl 1 rfl) ?_
  refine cx_ri (va_runS (As := [.int (nI k)]) (rest := [.ref (ad 0)]) ⟨hx, hb, hml, hown, hts⟩ (c_X4_isOne l  (nI k)) (va_cwS 1 hts gX4_wheelOf_X4_isOne rfl rfl rfl (by decide +kernel) ⟨Nat.le_of_ble_eq_true rfl, Nat.le_of_ble_eq_true rfl⟩) ⟨pc_blind, (fun U hU hW => ⟨rfl, trivial⟩)⟩ rfl rfl hl.1 rfl (lv_room (Nat.le_of_ble_eq_true rfl)) dX4_wheelOf_2 ⟨Nat.le_of_ble_eq_true rfl, Nat.le_of_ble_eq_true rfl⟩) hS hP (fun H locs hP hS => ?_)
  refine cx_top (show (inI (nI k) 0 7) = 1 from in_of0 (out_8 hk)) ?_
  refine lv_if_ne (tgt := 12) hx hb dX4_wheelOf_5 (by decide) (fun c_5 => ?_) (fun c_5 => absurd c_5 (by decide))
  refine lv_iload_n hx hb dX4_wheelOf_12 rfl (lv_at hl 2 rfl) ?_
  refine lv_iconst (v := 0) hx hb dX4_wheelOf_13 (by decide) ?_
  refine lv_iconst (v := 3) hx hb dX4_wheelOf_14 (by decide) ?_
  refine cx_ri (va_runS (As := [.int (nI w), .int 0, .int 3]) (rest := [.ref (ad 0)]) ⟨hx, hb, hml, hown, hts⟩ (c_X4_in l  (nI w) 0 3) (va_cwS 3 hts gX4_wheelOf_X4_in rfl rfl rfl (by decide +kernel) ⟨Nat.le_of_ble_eq_true rfl, Nat.le_of_ble_eq_true rfl⟩) ⟨pc_blind, (fun U hU hW => ⟨rfl, trivial⟩)⟩ rfl rfl hl.1 rfl (lv_room (Nat.le_of_ble_eq_true rfl)) dX4_wheelOf_15 ⟨Nat.le_of_ble_eq_true rfl, Nat.le_of_ble_eq_true rfl⟩) hS hP (fun H locs hP hS => ?_)
  refine cx_top (show (inI (nI w) 0 3) = 1 from in_of0 (out_k (n := 3) (by omega) (by decide))) ?_
  refine lv_if_eq (tgt := 25) hx hb dX4_wheelOf_18 (by decide) (fun c_18 => absurd c_18 (by decide)) (fun c_18 => ?_)
  refine lv_iconst (v := 0) hx hb dX4_wheelOf_21 (by decide) ?_
  refine lv_goto (tgt := 26) hx hb dX4_wheelOf_22 (by decide) ?_
  refine cx_put (D := D) (ci := 4) (v := 0) (ty := .int) (C := RX4) (T := TX4) (N := 12) hx hb hts hinX4 tyX4 tyX4_ok nmX4 hown hK hP (hD _ _) hS 0 mw_0 rfl 0 (by decide) (hts (.fieldLink RX4 29 "SquareGearsModel" "thrown" "I") (by decide +kernel)) (fun _ h9 => h9) rfl (by decide +kernel) rfl rfl (Nat.le_of_ble_eq_true rfl) mw_I0 dX4_wheelOf_26 (fun H locs hP hS => ?_)
  refine lv_aload_n hx hb dX4_wheelOf_29 rfl (lv_at hl 0 rfl) ?_
  refine va_get (D := D) (ci := 4) (v := .int 0) (C := RX4) (T := TX4) (N := 12) hx hb hts hinX4 hown hK hP 0 mw_0 rfl 0 (by decide) (hts (.fieldLink RX4 29 "SquareGearsModel" "thrown" "I") (by decide +kernel)) (fun _ h9 => h9) rfl dX4_wheelOf_30 ?_
  refine lv_if_le (tgt := 40) hx hb dX4_wheelOf_33 (by decide) (fun c_33 => ?_) (fun c_33 => absurd c_33 (by decide))
  refine lv_aload_n hx hb dX4_wheelOf_40 rfl (lv_at hl 0 rfl) ?_
  refine lv_iload_n hx hb dX4_wheelOf_41 rfl (lv_at hl 1 rfl) ?_
  refine lv_iload_n hx hb dX4_wheelOf_42 rfl (lv_at hl 2 rfl) ?_
  refine cx_ri (va_runV (As := [.int (nI k), .int (nI w)]) (rest := []) ⟨hx, hb, hml, hown, hts⟩ (c_X4_wheelNow l D T ad (upd I 0 0) R k w (hk) (hw)) (cwV 2 hts gX4_wheelOf_X4_wheelNow rfl rfl rfl (by decide +kernel) ⟨Nat.le_of_ble_eq_true rfl, Nat.le_of_ble_eq_true rfl⟩) ⟨MR.blind, va_recv hK hP (ci := 4) (q0 := 0) rfl mw_0, (MR.pre hP hK rfl)⟩ rfl rfl hl.1 rfl (lv_room (Nat.le_of_ble_eq_true rfl)) dX4_wheelOf_43 ⟨Nat.le_of_ble_eq_true rfl, Nat.le_of_ble_eq_true rfl⟩) hS hP (fun H locs hP hS => ?_)
  exact W.iret (v := (wnM ((R 0)) k w)) hx hb hr (fun t ht hW => ⟨⟨(wnM ((R 0)) k w), (), rfl, ⟨rfl, trivial⟩, by show va_P _ _ _ _; rw [ht]; exact hP⟩, hS.F ht⟩) hS.2.2 dX4_wheelOf_46
set_option maxHeartbeats 4000000 in
set_option maxRecDepth 100000 in
theorem c_X4_trace (l : Launch) (D : va_G) (T : Nat → ClassId) (ad : Nat → Nat) (I : Nat → Int32) (R : Nat → Nat → Int32) (sz : Nat) (n : Nat) (w : Nat) (hAD : AD 7 ad) (hn : n < 8) (hw : w < 2) : Met l yX4_trace wsX4_trace ({ frames := 2, cells := 0, slots := 0, locals := 45 }) (va_Pc [.ref (ad 0), .int (nI n), .int (nI w)] (MB D T ad I R sz)) (va_Qi (fun r (u9 : Unit) => r = (trS (us (R 0)) n 8) ∧ True) (fun (u9 : Unit) t => va_P D vwCl (mw T ad (upd I 0 0) R) t.heap) (cA 7 ad sz)) 0 0 (cA 7 ad sz) := by
  refine Met.ofW (cc := cX4_trace) (maxL := 3) (ret := (some .int)) (by decide) rfl ?_
  intro p e s m args_ below meth c s₁ B hml hv
  obtain ⟨rfl, hsz, hP, hK⟩ := hv
  have hx := B.exec
  have hb := B.bytes
  have hr := B.returns
  have hts := atoms_spec (ws := wsX4_trace) B.pre
  have hown : s.vm.findClass RX4 = some m.cls := findClass_of_methodNamed B.named
  have hlocks := B.notSynchronized
  have hinX4 : ∀ w ∈ u_ws RX4 TX4 12, w ∈ wsX4_trace := by decide +kernel
  subst hsz
  have hS : va_S (cA 7 ad s.heap.size) s.heap s.heap [] := va_S.rf
  have hD : ∀ I R, va_D (cA 7 ad s.heap.size) (mw T ad I R) := fun I R => mw_D hAD (fun k hk => cA_in hk)
  have hl := lv_entry ([.ref (ad 0), .int (nI n), .int (nI w)]) (n := 3) (Nat.le_of_ble_eq_true rfl)
  rw [lg_entry_eq]
  generalize (lg_sl ([.ref (ad 0), .int (nI n), .int (nI w)]) ++ List.replicate (3 - (lg_sl ([.ref (ad 0), .int (nI n), .int (nI w)])).length) Slot.unset).toArray = ls at hl ⊢
  have hl : lv_has ls 3 [(0, .ref (ad 0)), (1, .int (nI n)), (2, .int (nI w))] := hl
  refine lv_aload_n hx hb dX4_trace_0 rfl (lv_at hl 0 rfl) ?_
  refine lv_iload_n hx hb dX4_trace_1 rfl (lv_at hl 1 rfl) ?_
  refine cx_ri (va_runS (As := [.int (nI n)]) (rest := [.ref (ad 0)]) ⟨hx, hb, hml, hown, hts⟩ (c_X4_isOne l  (nI n)) (va_cwS 1 hts gX4_trace_X4_isOne rfl rfl rfl (by decide +kernel) ⟨Nat.le_of_ble_eq_true rfl, Nat.le_of_ble_eq_true rfl⟩) ⟨pc_blind, (fun U hU hW => ⟨rfl, trivial⟩)⟩ rfl rfl hl.1 rfl (lv_room (Nat.le_of_ble_eq_true rfl)) dX4_trace_2 ⟨Nat.le_of_ble_eq_true rfl, Nat.le_of_ble_eq_true rfl⟩) hS hP (fun H locs hP hS => ?_)
  refine cx_top (show (inI (nI n) 0 7) = 1 from in_of0 (out_8 hn)) ?_
  refine lv_if_ne (tgt := 12) hx hb dX4_trace_5 (by decide) (fun c_5 => ?_) (fun c_5 => absurd c_5 (by decide))
  refine lv_iload_n hx hb dX4_trace_12 rfl (lv_at hl 2 rfl) ?_
  refine lv_iconst (v := 0) hx hb dX4_trace_13 (by decide) ?_
  refine lv_iconst (v := 1) hx hb dX4_trace_14 (by decide) ?_
  refine cx_ri (va_runS (As := [.int (nI w), .int 0, .int 1]) (rest := [.ref (ad 0)]) ⟨hx, hb, hml, hown, hts⟩ (c_X4_in l  (nI w) 0 1) (va_cwS 3 hts gX4_trace_X4_in rfl rfl rfl (by decide +kernel) ⟨Nat.le_of_ble_eq_true rfl, Nat.le_of_ble_eq_true rfl⟩) ⟨pc_blind, (fun U hU hW => ⟨rfl, trivial⟩)⟩ rfl rfl hl.1 rfl (lv_room (Nat.le_of_ble_eq_true rfl)) dX4_trace_15 ⟨Nat.le_of_ble_eq_true rfl, Nat.le_of_ble_eq_true rfl⟩) hS hP (fun H locs hP hS => ?_)
  refine cx_top (show (inI (nI w) 0 1) = 1 from in_of0 (out_k (n := 1) (by omega) (by decide))) ?_
  refine lv_if_eq (tgt := 25) hx hb dX4_trace_18 (by decide) (fun c_18 => absurd c_18 (by decide)) (fun c_18 => ?_)
  refine lv_iconst (v := 0) hx hb dX4_trace_21 (by decide) ?_
  refine lv_goto (tgt := 26) hx hb dX4_trace_22 (by decide) ?_
  refine cx_put (D := D) (ci := 4) (v := 0) (ty := .int) (C := RX4) (T := TX4) (N := 12) hx hb hts hinX4 tyX4 tyX4_ok nmX4 hown hK hP (hD _ _) hS 0 mw_0 rfl 0 (by decide) (hts (.fieldLink RX4 29 "SquareGearsModel" "thrown" "I") (by decide +kernel)) (fun _ h9 => h9) rfl (by decide +kernel) rfl rfl (Nat.le_of_ble_eq_true rfl) mw_I0 dX4_trace_26 (fun H locs hP hS => ?_)
  refine lv_aload_n hx hb dX4_trace_29 rfl (lv_at hl 0 rfl) ?_
  refine va_get (D := D) (ci := 4) (v := .int 0) (C := RX4) (T := TX4) (N := 12) hx hb hts hinX4 hown hK hP 0 mw_0 rfl 0 (by decide) (hts (.fieldLink RX4 29 "SquareGearsModel" "thrown" "I") (by decide +kernel)) (fun _ h9 => h9) rfl dX4_trace_30 ?_
  refine lv_if_le (tgt := 40) hx hb dX4_trace_33 (by decide) (fun c_33 => ?_) (fun c_33 => absurd c_33 (by decide))
  refine lv_aload_n hx hb dX4_trace_40 rfl (lv_at hl 0 rfl) ?_
  refine lv_iload_n hx hb dX4_trace_41 rfl (lv_at hl 1 rfl) ?_
  refine cx_ri (va_runV (As := [.int (nI n)]) (rest := []) ⟨hx, hb, hml, hown, hts⟩ (c_X4_traceAt l D T ad (upd I 0 0) R n (hn)) (cwV 1 hts gX4_trace_X4_traceAt rfl rfl rfl (by decide +kernel) ⟨Nat.le_of_ble_eq_true rfl, Nat.le_of_ble_eq_true rfl⟩) ⟨MR.blind, va_recv hK hP (ci := 4) (q0 := 0) rfl mw_0, (MR.pre hP hK rfl)⟩ rfl rfl hl.1 rfl (lv_room (Nat.le_of_ble_eq_true rfl)) dX4_trace_42 ⟨Nat.le_of_ble_eq_true rfl, Nat.le_of_ble_eq_true rfl⟩) hS hP (fun H locs hP hS => ?_)
  exact W.iret (v := (trS (us ((R 0))) n 8)) hx hb hr (fun t ht hW => ⟨⟨(trS (us ((R 0))) n 8), (), rfl, ⟨rfl, trivial⟩, by show va_P _ _ _ _; rw [ht]; exact hP⟩, hS.F ht⟩) hS.2.2 dX4_trace_45
set_option maxHeartbeats 4000000 in
set_option maxRecDepth 100000 in
theorem c_X4_pointOf (l : Launch) (D : va_G) (T : Nat → ClassId) (ad : Nat → Nat) (I : Nat → Int32) (R : Nat → Nat → Int32) (sz : Nat) (n : Nat) (w : Nat) (hAD : AD 7 ad) (hn : n < 8) (hw : w < 3) : Met l yX4_pointOf wsX4_pointOf ({ frames := 4, cells := 0, slots := 0, locals := 88 }) (va_Pc [.ref (ad 0), .int (nI n), .int (nI w)] (MB D T ad I R sz)) (va_Qi (fun r (u9 : Unit) => r = (pnF (qz (R 0)) (us (R 0)) n w) ∧ True) (fun (u9 : Unit) t => va_P D vwCl (mw T ad (upd I 0 0) R) t.heap) (cA 7 ad sz)) 0 0 (cA 7 ad sz) := by
  refine Met.ofW (cc := cX4_pointOf) (maxL := 3) (ret := (some .int)) (by decide) rfl ?_
  intro p e s m args_ below meth c s₁ B hml hv
  obtain ⟨rfl, hsz, hP, hK⟩ := hv
  have hx := B.exec
  have hb := B.bytes
  have hr := B.returns
  have hts := atoms_spec (ws := wsX4_pointOf) B.pre
  have hown : s.vm.findClass RX4 = some m.cls := findClass_of_methodNamed B.named
  have hlocks := B.notSynchronized
  have hinX4 : ∀ w ∈ u_ws RX4 TX4 12, w ∈ wsX4_pointOf := by decide +kernel
  subst hsz
  have hS : va_S (cA 7 ad s.heap.size) s.heap s.heap [] := va_S.rf
  have hD : ∀ I R, va_D (cA 7 ad s.heap.size) (mw T ad I R) := fun I R => mw_D hAD (fun k hk => cA_in hk)
  have hl := lv_entry ([.ref (ad 0), .int (nI n), .int (nI w)]) (n := 3) (Nat.le_of_ble_eq_true rfl)
  rw [lg_entry_eq]
  generalize (lg_sl ([.ref (ad 0), .int (nI n), .int (nI w)]) ++ List.replicate (3 - (lg_sl ([.ref (ad 0), .int (nI n), .int (nI w)])).length) Slot.unset).toArray = ls at hl ⊢
  have hl : lv_has ls 3 [(0, .ref (ad 0)), (1, .int (nI n)), (2, .int (nI w))] := hl
  refine lv_aload_n hx hb dX4_pointOf_0 rfl (lv_at hl 0 rfl) ?_
  refine lv_iload_n hx hb dX4_pointOf_1 rfl (lv_at hl 1 rfl) ?_
  refine cx_ri (va_runS (As := [.int (nI n)]) (rest := [.ref (ad 0)]) ⟨hx, hb, hml, hown, hts⟩ (c_X4_isOne l  (nI n)) (va_cwS 1 hts gX4_pointOf_X4_isOne rfl rfl rfl (by decide +kernel) ⟨Nat.le_of_ble_eq_true rfl, Nat.le_of_ble_eq_true rfl⟩) ⟨pc_blind, (fun U hU hW => ⟨rfl, trivial⟩)⟩ rfl rfl hl.1 rfl (lv_room (Nat.le_of_ble_eq_true rfl)) dX4_pointOf_2 ⟨Nat.le_of_ble_eq_true rfl, Nat.le_of_ble_eq_true rfl⟩) hS hP (fun H locs hP hS => ?_)
  refine cx_top (show (inI (nI n) 0 7) = 1 from in_of0 (out_8 hn)) ?_
  refine lv_if_ne (tgt := 12) hx hb dX4_pointOf_5 (by decide) (fun c_5 => ?_) (fun c_5 => absurd c_5 (by decide))
  refine lv_iload_n hx hb dX4_pointOf_12 rfl (lv_at hl 2 rfl) ?_
  refine lv_iconst (v := 0) hx hb dX4_pointOf_13 (by decide) ?_
  refine lv_iconst (v := 2) hx hb dX4_pointOf_14 (by decide) ?_
  refine cx_ri (va_runS (As := [.int (nI w), .int 0, .int 2]) (rest := [.ref (ad 0)]) ⟨hx, hb, hml, hown, hts⟩ (c_X4_in l  (nI w) 0 2) (va_cwS 3 hts gX4_pointOf_X4_in rfl rfl rfl (by decide +kernel) ⟨Nat.le_of_ble_eq_true rfl, Nat.le_of_ble_eq_true rfl⟩) ⟨pc_blind, (fun U hU hW => ⟨rfl, trivial⟩)⟩ rfl rfl hl.1 rfl (lv_room (Nat.le_of_ble_eq_true rfl)) dX4_pointOf_15 ⟨Nat.le_of_ble_eq_true rfl, Nat.le_of_ble_eq_true rfl⟩) hS hP (fun H locs hP hS => ?_)
  refine cx_top (show (inI (nI w) 0 2) = 1 from in_of0 (out_k (n := 2) (by omega) (by decide))) ?_
  refine lv_if_eq (tgt := 25) hx hb dX4_pointOf_18 (by decide) (fun c_18 => absurd c_18 (by decide)) (fun c_18 => ?_)
  refine lv_iconst (v := 0) hx hb dX4_pointOf_21 (by decide) ?_
  refine lv_goto (tgt := 26) hx hb dX4_pointOf_22 (by decide) ?_
  refine cx_put (D := D) (ci := 4) (v := 0) (ty := .int) (C := RX4) (T := TX4) (N := 12) hx hb hts hinX4 tyX4 tyX4_ok nmX4 hown hK hP (hD _ _) hS 0 mw_0 rfl 0 (by decide) (hts (.fieldLink RX4 29 "SquareGearsModel" "thrown" "I") (by decide +kernel)) (fun _ h9 => h9) rfl (by decide +kernel) rfl rfl (Nat.le_of_ble_eq_true rfl) mw_I0 dX4_pointOf_26 (fun H locs hP hS => ?_)
  refine lv_aload_n hx hb dX4_pointOf_29 rfl (lv_at hl 0 rfl) ?_
  refine va_get (D := D) (ci := 4) (v := .int 0) (C := RX4) (T := TX4) (N := 12) hx hb hts hinX4 hown hK hP 0 mw_0 rfl 0 (by decide) (hts (.fieldLink RX4 29 "SquareGearsModel" "thrown" "I") (by decide +kernel)) (fun _ h9 => h9) rfl dX4_pointOf_30 ?_
  refine lv_if_le (tgt := 40) hx hb dX4_pointOf_33 (by decide) (fun c_33 => ?_) (fun c_33 => absurd c_33 (by decide))
  refine lv_aload_n hx hb dX4_pointOf_40 rfl (lv_at hl 0 rfl) ?_
  refine lv_iload_n hx hb dX4_pointOf_41 rfl (lv_at hl 1 rfl) ?_
  refine lv_iload_n hx hb dX4_pointOf_42 rfl (lv_at hl 2 rfl) ?_
  refine cx_ri (va_runV (As := [.int (nI n), .int (nI w)]) (rest := []) ⟨hx, hb, hml, hown, hts⟩ (c_X4_pointNow l D T ad (upd I 0 0) R n w (hn) (hw)) (cwV 2 hts gX4_pointOf_X4_pointNow rfl rfl rfl (by decide +kernel) ⟨Nat.le_of_ble_eq_true rfl, Nat.le_of_ble_eq_true rfl⟩) ⟨MR.blind, va_recv hK hP (ci := 4) (q0 := 0) rfl mw_0, (MR.pre hP hK rfl)⟩ rfl rfl hl.1 rfl (lv_room (Nat.le_of_ble_eq_true rfl)) dX4_pointOf_43 ⟨Nat.le_of_ble_eq_true rfl, Nat.le_of_ble_eq_true rfl⟩) hS hP (fun H locs hP hS => ?_)
  exact W.iret (v := (pnF (qz ((R 0))) (us ((R 0))) n w)) hx hb hr (fun t ht hW => ⟨⟨(pnF (qz ((R 0))) (us ((R 0))) n w), (), rfl, ⟨rfl, trivial⟩, by show va_P _ _ _ _; rw [ht]; exact hP⟩, hS.F ht⟩) hS.2.2 dX4_pointOf_46
set_option maxHeartbeats 4000000 in
set_option maxRecDepth 100000 in
theorem c_X4_count (l : Launch) (D : va_G) (T : Nat → ClassId) (ad : Nat → Nat) (I : Nat → Int32) (R : Nat → Nat → Int32) (sz : Nat) (w : Nat) (hAD : AD 7 ad) (hw : w < 9) : Met l yX4_count wsX4_count ({ frames := 6, cells := 0, slots := 0, locals := 133 }) (va_Pc [.ref (ad 0), .int (nI w)] (MB D T ad I R sz)) (va_Qi (fun r (u9 : Unit) => r = (cnM (R 0) (I 1) w) ∧ True) (fun (u9 : Unit) t => va_P D vwCl (mw T ad (upd I 0 0) R) t.heap) (cA 7 ad sz)) 0 0 (cA 7 ad sz) := by
  refine Met.ofW (cc := cX4_count) (maxL := 2) (ret := (some .int)) (by decide) rfl ?_
  intro p e s m args_ below meth c s₁ B hml hv
  obtain ⟨rfl, hsz, hP, hK⟩ := hv
  have hx := B.exec
  have hb := B.bytes
  have hr := B.returns
  have hts := atoms_spec (ws := wsX4_count) B.pre
  have hown : s.vm.findClass RX4 = some m.cls := findClass_of_methodNamed B.named
  have hlocks := B.notSynchronized
  have hinX4 : ∀ w ∈ u_ws RX4 TX4 12, w ∈ wsX4_count := by decide +kernel
  subst hsz
  have hS : va_S (cA 7 ad s.heap.size) s.heap s.heap [] := va_S.rf
  have hD : ∀ I R, va_D (cA 7 ad s.heap.size) (mw T ad I R) := fun I R => mw_D hAD (fun k hk => cA_in hk)
  have hl := lv_entry ([.ref (ad 0), .int (nI w)]) (n := 2) (Nat.le_of_ble_eq_true rfl)
  rw [lg_entry_eq]
  generalize (lg_sl ([.ref (ad 0), .int (nI w)]) ++ List.replicate (2 - (lg_sl ([.ref (ad 0), .int (nI w)])).length) Slot.unset).toArray = ls at hl ⊢
  have hl : lv_has ls 2 [(0, .ref (ad 0)), (1, .int (nI w))] := hl
  refine lv_aload_n hx hb dX4_count_0 rfl (lv_at hl 0 rfl) ?_
  refine lv_iload_n hx hb dX4_count_1 rfl (lv_at hl 1 rfl) ?_
  refine lv_iconst (v := 0) hx hb dX4_count_2 (by decide) ?_
  refine lv_bipush (v := 8) hx hb dX4_count_3 (by decide) ?_
  refine cx_ri (va_runS (As := [.int (nI w), .int 0, .int 8]) (rest := [.ref (ad 0)]) ⟨hx, hb, hml, hown, hts⟩ (c_X4_in l  (nI w) 0 8) (va_cwS 3 hts gX4_count_X4_in rfl rfl rfl (by decide +kernel) ⟨Nat.le_of_ble_eq_true rfl, Nat.le_of_ble_eq_true rfl⟩) ⟨pc_blind, (fun U hU hW => ⟨rfl, trivial⟩)⟩ rfl rfl hl.1 rfl (lv_room (Nat.le_of_ble_eq_true rfl)) dX4_count_5 ⟨Nat.le_of_ble_eq_true rfl, Nat.le_of_ble_eq_true rfl⟩) hS hP (fun H locs hP hS => ?_)
  refine cx_top (show (inI (nI w) 0 8) = 1 from in_of0 (out_k (n := 8) (by omega) (by decide))) ?_
  refine lv_if_eq (tgt := 15) hx hb dX4_count_8 (by decide) (fun c_8 => absurd c_8 (by decide)) (fun c_8 => ?_)
  refine lv_iconst (v := 0) hx hb dX4_count_11 (by decide) ?_
  refine lv_goto (tgt := 16) hx hb dX4_count_12 (by decide) ?_
  refine cx_put (D := D) (ci := 4) (v := 0) (ty := .int) (C := RX4) (T := TX4) (N := 12) hx hb hts hinX4 tyX4 tyX4_ok nmX4 hown hK hP (hD _ _) hS 0 mw_0 rfl 0 (by decide) (hts (.fieldLink RX4 29 "SquareGearsModel" "thrown" "I") (by decide +kernel)) (fun _ h9 => h9) rfl (by decide +kernel) rfl rfl (Nat.le_of_ble_eq_true rfl) mw_I0 dX4_count_16 (fun H locs hP hS => ?_)
  refine lv_aload_n hx hb dX4_count_19 rfl (lv_at hl 0 rfl) ?_
  refine va_get (D := D) (ci := 4) (v := .int 0) (C := RX4) (T := TX4) (N := 12) hx hb hts hinX4 hown hK hP 0 mw_0 rfl 0 (by decide) (hts (.fieldLink RX4 29 "SquareGearsModel" "thrown" "I") (by decide +kernel)) (fun _ h9 => h9) rfl dX4_count_20 ?_
  refine lv_if_le (tgt := 30) hx hb dX4_count_23 (by decide) (fun c_23 => ?_) (fun c_23 => absurd c_23 (by decide))
  refine lv_aload_n hx hb dX4_count_30 rfl (lv_at hl 0 rfl) ?_
  refine lv_iload_n hx hb dX4_count_31 rfl (lv_at hl 1 rfl) ?_
  refine cx_ri (va_runV (As := [.int (nI w)]) (rest := []) ⟨hx, hb, hml, hown, hts⟩ (c_X4_countNow l D T ad (upd I 0 0) R w (hw)) (cwV 1 hts gX4_count_X4_countNow rfl rfl rfl (by decide +kernel) ⟨Nat.le_of_ble_eq_true rfl, Nat.le_of_ble_eq_true rfl⟩) ⟨MR.blind, va_recv hK hP (ci := 4) (q0 := 0) rfl mw_0, (MR.pre hP hK rfl)⟩ rfl rfl hl.1 rfl (lv_room (Nat.le_of_ble_eq_true rfl)) dX4_count_32 ⟨Nat.le_of_ble_eq_true rfl, Nat.le_of_ble_eq_true rfl⟩) hS hP (fun H locs hP hS => ?_)
  exact W.iret (v := (cnM ((R 0)) ((I 1)) w)) hx hb hr (fun t ht hW => ⟨⟨(cnM ((R 0)) ((I 1)) w), (), rfl, ⟨rfl, trivial⟩, by show va_P _ _ _ _; rw [ht]; exact hP⟩, hS.F ht⟩) hS.2.2 dX4_count_35
set_option maxHeartbeats 4000000 in
set_option maxRecDepth 100000 in
theorem c_X4_findLost (l : Launch) (D : va_G) (T : Nat → ClassId) (ad : Nat → Nat) (I : Nat → Int32) (R : Nat → Nat → Int32) (sz : Nat) (hAD : AD 7 ad) : Met l yX4_findLost wsX4_findLost ({ frames := 4, cells := 0, slots := 0, locals := 90 }) (va_Pc [.ref (ad 0)] (MB D T ad I R sz)) (va_Qi (fun r (u9 : Unit) => r = (flF (diF (qz (R 0)) (us (R 0)))) ∧ True) (fun (u9 : Unit) t => va_P D vwCl (mw T ad (upd I 0 0) R) t.heap) (cA 7 ad sz)) 0 0 (cA 7 ad sz) := by
  refine Met.ofW (cc := cX4_findLost) (maxL := 1) (ret := (some .int)) (by decide) rfl ?_
  intro p e s m args_ below meth c s₁ B hml hv
  obtain ⟨rfl, hsz, hP, hK⟩ := hv
  have hx := B.exec
  have hb := B.bytes
  have hr := B.returns
  have hts := atoms_spec (ws := wsX4_findLost) B.pre
  have hown : s.vm.findClass RX4 = some m.cls := findClass_of_methodNamed B.named
  have hlocks := B.notSynchronized
  have hinX4 : ∀ w ∈ u_ws RX4 TX4 12, w ∈ wsX4_findLost := by decide +kernel
  subst hsz
  have hS : va_S (cA 7 ad s.heap.size) s.heap s.heap [] := va_S.rf
  have hD : ∀ I R, va_D (cA 7 ad s.heap.size) (mw T ad I R) := fun I R => mw_D hAD (fun k hk => cA_in hk)
  have hl := lv_entry ([.ref (ad 0)]) (n := 1) (Nat.le_of_ble_eq_true rfl)
  rw [lg_entry_eq]
  generalize (lg_sl ([.ref (ad 0)]) ++ List.replicate (1 - (lg_sl ([.ref (ad 0)])).length) Slot.unset).toArray = ls at hl ⊢
  have hl : lv_has ls 1 [(0, .ref (ad 0))] := hl
  refine lv_aload_n hx hb dX4_findLost_0 rfl (lv_at hl 0 rfl) ?_
  refine lv_iconst (v := 0) hx hb dX4_findLost_1 (by decide) ?_
  refine cx_put (D := D) (ci := 4) (v := 0) (ty := .int) (C := RX4) (T := TX4) (N := 12) hx hb hts hinX4 tyX4 tyX4_ok nmX4 hown hK hP (hD _ _) hS 0 mw_0 rfl 0 (by decide) (hts (.fieldLink RX4 29 "SquareGearsModel" "thrown" "I") (by decide +kernel)) (fun _ h9 => h9) rfl (by decide +kernel) rfl rfl (Nat.le_of_ble_eq_true rfl) mw_I0 dX4_findLost_2 (fun H locs hP hS => ?_)
  refine lv_aload_n hx hb dX4_findLost_5 rfl (lv_at hl 0 rfl) ?_
  refine cx_ri (va_runV (As := []) (rest := []) ⟨hx, hb, hml, hown, hts⟩ (c_X4_explaining l D T ad (upd I 0 0) R ) (cwV 0 hts gX4_findLost_X4_explaining rfl rfl rfl (by decide +kernel) ⟨Nat.le_of_ble_eq_true rfl, Nat.le_of_ble_eq_true rfl⟩) ⟨MR.blind, va_recv hK hP (ci := 4) (q0 := 0) rfl mw_0, (MR.pre hP hK rfl)⟩ rfl rfl hl.1 rfl (lv_room (Nat.le_of_ble_eq_true rfl)) dX4_findLost_6 ⟨Nat.le_of_ble_eq_true rfl, Nat.le_of_ble_eq_true rfl⟩) hS hP (fun H locs hP hS => ?_)
  exact W.iret (v := (flF (diF (qz ((R 0))) (us ((R 0)))))) hx hb hr (fun t ht hW => ⟨⟨(flF (diF (qz ((R 0))) (us ((R 0))))), (), rfl, ⟨rfl, trivial⟩, by show va_P _ _ _ _; rw [ht]; exact hP⟩, hS.F ht⟩) hS.2.2 dX4_findLost_9
set_option maxHeartbeats 4000000 in
set_option maxRecDepth 100000 in
theorem c_X4_ifTurned (l : Launch) (D : va_G) (T : Nat → ClassId) (ad : Nat → Nat) (I : Nat → Int32) (R : Nat → Nat → Int32) (sz : Nat) (b : Nat) (n : Nat) (hAD : AD 7 ad) (hb8 : b < 8) (hn : n < 8) : Met l yX4_ifTurned wsX4_ifTurned ({ frames := 2, cells := 0, slots := 0, locals := 45 }) (va_Pc [.ref (ad 0), .int (nI b), .int (nI n)] (MB D T ad I R sz)) (va_Qi (fun r (u9 : Unit) => r = (trS (us (R 0)) (n ^^^ b) 8) ∧ True) (fun (u9 : Unit) t => va_P D vwCl (mw T ad (upd I 0 0) R) t.heap) (cA 7 ad sz)) 0 0 (cA 7 ad sz) := by
  refine Met.ofW (cc := cX4_ifTurned) (maxL := 3) (ret := (some .int)) (by decide) rfl ?_
  intro p e s m args_ below meth c s₁ B hml hv
  obtain ⟨rfl, hsz, hP, hK⟩ := hv
  have hx := B.exec
  have hb := B.bytes
  have hr := B.returns
  have hts := atoms_spec (ws := wsX4_ifTurned) B.pre
  have hown : s.vm.findClass RX4 = some m.cls := findClass_of_methodNamed B.named
  have hlocks := B.notSynchronized
  have hinX4 : ∀ w ∈ u_ws RX4 TX4 12, w ∈ wsX4_ifTurned := by decide +kernel
  subst hsz
  have hS : va_S (cA 7 ad s.heap.size) s.heap s.heap [] := va_S.rf
  have hD : ∀ I R, va_D (cA 7 ad s.heap.size) (mw T ad I R) := fun I R => mw_D hAD (fun k hk => cA_in hk)
  have hl := lv_entry ([.ref (ad 0), .int (nI b), .int (nI n)]) (n := 3) (Nat.le_of_ble_eq_true rfl)
  rw [lg_entry_eq]
  generalize (lg_sl ([.ref (ad 0), .int (nI b), .int (nI n)]) ++ List.replicate (3 - (lg_sl ([.ref (ad 0), .int (nI b), .int (nI n)])).length) Slot.unset).toArray = ls at hl ⊢
  have hl : lv_has ls 3 [(0, .ref (ad 0)), (1, .int (nI b)), (2, .int (nI n))] := hl
  refine lv_aload_n hx hb dX4_ifTurned_0 rfl (lv_at hl 0 rfl) ?_
  refine lv_iload_n hx hb dX4_ifTurned_1 rfl (lv_at hl 2 rfl) ?_
  refine cx_ri (va_runS (As := [.int (nI n)]) (rest := [.ref (ad 0)]) ⟨hx, hb, hml, hown, hts⟩ (c_X4_isOne l  (nI n)) (va_cwS 1 hts gX4_ifTurned_X4_isOne rfl rfl rfl (by decide +kernel) ⟨Nat.le_of_ble_eq_true rfl, Nat.le_of_ble_eq_true rfl⟩) ⟨pc_blind, (fun U hU hW => ⟨rfl, trivial⟩)⟩ rfl rfl hl.1 rfl (lv_room (Nat.le_of_ble_eq_true rfl)) dX4_ifTurned_2 ⟨Nat.le_of_ble_eq_true rfl, Nat.le_of_ble_eq_true rfl⟩) hS hP (fun H locs hP hS => ?_)
  refine cx_top (show (inI (nI n) 0 7) = 1 from in_of0 (out_8 hn)) ?_
  refine lv_if_ne (tgt := 12) hx hb dX4_ifTurned_5 (by decide) (fun c_5 => ?_) (fun c_5 => absurd c_5 (by decide))
  refine lv_iload_n hx hb dX4_ifTurned_12 rfl (lv_at hl 1 rfl) ?_
  refine cx_ri (va_runS (As := [.int (nI b)]) (rest := [.ref (ad 0)]) ⟨hx, hb, hml, hown, hts⟩ (c_X4_isOne l  (nI b)) (va_cwS 1 hts gX4_ifTurned_X4_isOne rfl rfl rfl (by decide +kernel) ⟨Nat.le_of_ble_eq_true rfl, Nat.le_of_ble_eq_true rfl⟩) ⟨pc_blind, (fun U hU hW => ⟨rfl, trivial⟩)⟩ rfl rfl hl.1 rfl (lv_room (Nat.le_of_ble_eq_true rfl)) dX4_ifTurned_13 ⟨Nat.le_of_ble_eq_true rfl, Nat.le_of_ble_eq_true rfl⟩) hS hP (fun H locs hP hS => ?_)
  refine cx_top (show (inI (nI b) 0 7) = 1 from in_of0 (out_8 hb8)) ?_
  refine lv_if_eq (tgt := 23) hx hb dX4_ifTurned_16 (by decide) (fun c_16 => absurd c_16 (by decide)) (fun c_16 => ?_)
  refine lv_iconst (v := 0) hx hb dX4_ifTurned_19 (by decide) ?_
  refine lv_goto (tgt := 24) hx hb dX4_ifTurned_20 (by decide) ?_
  refine cx_put (D := D) (ci := 4) (v := 0) (ty := .int) (C := RX4) (T := TX4) (N := 12) hx hb hts hinX4 tyX4 tyX4_ok nmX4 hown hK hP (hD _ _) hS 0 mw_0 rfl 0 (by decide) (hts (.fieldLink RX4 29 "SquareGearsModel" "thrown" "I") (by decide +kernel)) (fun _ h9 => h9) rfl (by decide +kernel) rfl rfl (Nat.le_of_ble_eq_true rfl) mw_I0 dX4_ifTurned_24 (fun H locs hP hS => ?_)
  refine lv_aload_n hx hb dX4_ifTurned_27 rfl (lv_at hl 0 rfl) ?_
  refine va_get (D := D) (ci := 4) (v := .int 0) (C := RX4) (T := TX4) (N := 12) hx hb hts hinX4 hown hK hP 0 mw_0 rfl 0 (by decide) (hts (.fieldLink RX4 29 "SquareGearsModel" "thrown" "I") (by decide +kernel)) (fun _ h9 => h9) rfl dX4_ifTurned_28 ?_
  refine lv_if_le (tgt := 38) hx hb dX4_ifTurned_31 (by decide) (fun c_31 => ?_) (fun c_31 => absurd c_31 (by decide))
  refine lv_aload_n hx hb dX4_ifTurned_38 rfl (lv_at hl 0 rfl) ?_
  refine lv_iload_n hx hb dX4_ifTurned_39 rfl (lv_at hl 2 rfl) ?_
  refine lv_iload_n hx hb dX4_ifTurned_40 rfl (lv_at hl 1 rfl) ?_
  refine lv_ixor hx hb dX4_ifTurned_41 ?_
  refine cx_top (show ((nI n) ^^^ (nI b)) = (nI (n ^^^ b)) from nI_xor hn hb8) ?_
  refine cx_ri (va_runV (As := [.int (nI (n ^^^ b))]) (rest := []) ⟨hx, hb, hml, hown, hts⟩ (c_X4_traceAt l D T ad (upd I 0 0) R (n ^^^ b) (xor_lt hn hb8)) (cwV 1 hts gX4_ifTurned_X4_traceAt rfl rfl rfl (by decide +kernel) ⟨Nat.le_of_ble_eq_true rfl, Nat.le_of_ble_eq_true rfl⟩) ⟨MR.blind, va_recv hK hP (ci := 4) (q0 := 0) rfl mw_0, (MR.pre hP hK rfl)⟩ rfl rfl hl.1 rfl (lv_room (Nat.le_of_ble_eq_true rfl)) dX4_ifTurned_42 ⟨Nat.le_of_ble_eq_true rfl, Nat.le_of_ble_eq_true rfl⟩) hS hP (fun H locs hP hS => ?_)
  exact W.iret (v := (trS (us ((R 0))) (n ^^^ b) 8)) hx hb hr (fun t ht hW => ⟨⟨(trS (us ((R 0))) (n ^^^ b) 8), (), rfl, ⟨rfl, trivial⟩, by show va_P _ _ _ _; rw [ht]; exact hP⟩, hS.F ht⟩) hS.2.2 dX4_ifTurned_45
set_option maxHeartbeats 4000000 in
set_option maxRecDepth 100000 in
theorem c_X4_bestTurn (l : Launch) (D : va_G) (T : Nat → ClassId) (ad : Nat → Nat) (I : Nat → Int32) (R : Nat → Nat → Int32) (sz : Nat) (hAD : AD 7 ad) : Met l yX4_bestTurn wsX4_bestTurn ({ frames := 4, cells := 0, slots := 0, locals := 90 }) (va_Pc [.ref (ad 0)] (MB D T ad I R sz)) (va_Qi (fun r (u9 : Unit) => r = (nI (btS (fun b => dtS (qz (R 0)) (us (R 0)) b 8) 7)) ∧ True) (fun (u9 : Unit) t => va_P D vwCl (mw T ad (upd I 0 0) R) t.heap) (cA 7 ad sz)) 0 0 (cA 7 ad sz) := by
  refine Met.ofW (cc := cX4_bestTurn) (maxL := 1) (ret := (some .int)) (by decide) rfl ?_
  intro p e s m args_ below meth c s₁ B hml hv
  obtain ⟨rfl, hsz, hP, hK⟩ := hv
  have hx := B.exec
  have hb := B.bytes
  have hr := B.returns
  have hts := atoms_spec (ws := wsX4_bestTurn) B.pre
  have hown : s.vm.findClass RX4 = some m.cls := findClass_of_methodNamed B.named
  have hlocks := B.notSynchronized
  have hinX4 : ∀ w ∈ u_ws RX4 TX4 12, w ∈ wsX4_bestTurn := by decide +kernel
  subst hsz
  have hS : va_S (cA 7 ad s.heap.size) s.heap s.heap [] := va_S.rf
  have hD : ∀ I R, va_D (cA 7 ad s.heap.size) (mw T ad I R) := fun I R => mw_D hAD (fun k hk => cA_in hk)
  have hl := lv_entry ([.ref (ad 0)]) (n := 1) (Nat.le_of_ble_eq_true rfl)
  rw [lg_entry_eq]
  generalize (lg_sl ([.ref (ad 0)]) ++ List.replicate (1 - (lg_sl ([.ref (ad 0)])).length) Slot.unset).toArray = ls at hl ⊢
  have hl : lv_has ls 1 [(0, .ref (ad 0))] := hl
  refine lv_aload_n hx hb dX4_bestTurn_0 rfl (lv_at hl 0 rfl) ?_
  refine lv_iconst (v := 0) hx hb dX4_bestTurn_1 (by decide) ?_
  refine cx_put (D := D) (ci := 4) (v := 0) (ty := .int) (C := RX4) (T := TX4) (N := 12) hx hb hts hinX4 tyX4 tyX4_ok nmX4 hown hK hP (hD _ _) hS 0 mw_0 rfl 0 (by decide) (hts (.fieldLink RX4 29 "SquareGearsModel" "thrown" "I") (by decide +kernel)) (fun _ h9 => h9) rfl (by decide +kernel) rfl rfl (Nat.le_of_ble_eq_true rfl) mw_I0 dX4_bestTurn_2 (fun H locs hP hS => ?_)
  refine lv_aload_n hx hb dX4_bestTurn_5 rfl (lv_at hl 0 rfl) ?_
  refine cx_ri (va_runV (As := []) (rest := []) ⟨hx, hb, hml, hown, hts⟩ (c_X4_nearestTurn l D T ad (upd I 0 0) R ) (cwV 0 hts gX4_bestTurn_X4_nearestTurn rfl rfl rfl (by decide +kernel) ⟨Nat.le_of_ble_eq_true rfl, Nat.le_of_ble_eq_true rfl⟩) ⟨MR.blind, va_recv hK hP (ci := 4) (q0 := 0) rfl mw_0, (MR.pre hP hK rfl)⟩ rfl rfl hl.1 rfl (lv_room (Nat.le_of_ble_eq_true rfl)) dX4_bestTurn_6 ⟨Nat.le_of_ble_eq_true rfl, Nat.le_of_ble_eq_true rfl⟩) hS hP (fun H locs hP hS => ?_)
  exact W.iret (v := (nI (btS (fun b => dtS (qz ((R 0))) (us ((R 0))) b 8) 7))) hx hb hr (fun t ht hW => ⟨⟨(nI (btS (fun b => dtS (qz ((R 0))) (us ((R 0))) b 8) 7)), (), rfl, ⟨rfl, trivial⟩, by show va_P _ _ _ _; rw [ht]; exact hP⟩, hS.F ht⟩) hS.2.2 dX4_bestTurn_9
set_option maxHeartbeats 4000000 in
set_option maxRecDepth 100000 in
theorem c_X4_mainShare (l : Launch) (D : va_G) (T : Nat → ClassId) (ad : Nat → Nat) (I : Nat → Int32) (R : Nat → Nat → Int32) (sz : Nat) (hAD : AD 7 ad) (hnd : NND) : Met l yX4_mainShare wsX4_mainShare ({ frames := 2, cells := 0, slots := 0, locals := 45 }) (va_Pc [.ref (ad 0)] (MB D T ad I R sz)) (va_Qd (fun r (u9 : Unit) => r = (msF (us (R 0))) ∧ True) (fun (u9 : Unit) t => va_P D vwCl (mw T ad (upd I 0 0) R) t.heap) (cA 7 ad sz)) 0 0 (cA 7 ad sz) := by
  refine Met.ofW (cc := cX4_mainShare) (maxL := 1) (ret := (some .double)) (by decide) rfl ?_
  intro p e s m args_ below meth c s₁ B hml hv
  obtain ⟨rfl, hsz, hP, hK⟩ := hv
  have hx := B.exec
  have hb := B.bytes
  have hr := B.returns
  have hts := atoms_spec (ws := wsX4_mainShare) B.pre
  have hown : s.vm.findClass RX4 = some m.cls := findClass_of_methodNamed B.named
  have hlocks := B.notSynchronized
  have hinX4 : ∀ w ∈ u_ws RX4 TX4 12, w ∈ wsX4_mainShare := by decide +kernel
  subst hsz
  have hS : va_S (cA 7 ad s.heap.size) s.heap s.heap [] := va_S.rf
  have hD : ∀ I R, va_D (cA 7 ad s.heap.size) (mw T ad I R) := fun I R => mw_D hAD (fun k hk => cA_in hk)
  have hl := lv_entry ([.ref (ad 0)]) (n := 1) (Nat.le_of_ble_eq_true rfl)
  rw [lg_entry_eq]
  generalize (lg_sl ([.ref (ad 0)]) ++ List.replicate (1 - (lg_sl ([.ref (ad 0)])).length) Slot.unset).toArray = ls at hl ⊢
  have hl : lv_has ls 1 [(0, .ref (ad 0))] := hl
  refine lv_aload_n hx hb dX4_mainShare_0 rfl (lv_at hl 0 rfl) ?_
  refine lv_iconst (v := 0) hx hb dX4_mainShare_1 (by decide) ?_
  refine cx_put (D := D) (ci := 4) (v := 0) (ty := .int) (C := RX4) (T := TX4) (N := 12) hx hb hts hinX4 tyX4 tyX4_ok nmX4 hown hK hP (hD _ _) hS 0 mw_0 rfl 0 (by decide) (hts (.fieldLink RX4 29 "SquareGearsModel" "thrown" "I") (by decide +kernel)) (fun _ h9 => h9) rfl (by decide +kernel) rfl rfl (Nat.le_of_ble_eq_true rfl) mw_I0 dX4_mainShare_2 (fun H locs hP hS => ?_)
  refine lv_aload_n hx hb dX4_mainShare_5 rfl (lv_at hl 0 rfl) ?_
  refine cx_rd (va_runV (As := []) (rest := []) ⟨hx, hb, hml, hown, hts⟩ (c_X4_share l D T ad (upd I 0 0) R (hnd)) (cwV 0 hts gX4_mainShare_X4_share rfl rfl rfl (by decide +kernel) ⟨Nat.le_of_ble_eq_true rfl, Nat.le_of_ble_eq_true rfl⟩) ⟨MR.blind, va_recv hK hP (ci := 4) (q0 := 0) rfl mw_0, (MR.pre hP hK rfl)⟩ rfl rfl hl.1 rfl (lv_room (Nat.le_of_ble_eq_true rfl)) dX4_mainShare_6 ⟨Nat.le_of_ble_eq_true rfl, Nat.le_of_ble_eq_true rfl⟩) hS hP (fun H locs hP hS => ?_)
  exact W.dret (v := (msF (us ((R 0))))) hx hb hr (fun t ht hW => ⟨⟨(msF (us ((R 0)))), (), rfl, ⟨rfl, trivial⟩, by show va_P _ _ _ _; rw [ht]; exact hP⟩, hS.F ht⟩) hS.2.2 dX4_mainShare_9
set_option maxHeartbeats 4000000 in
set_option maxRecDepth 100000 in
theorem c_X4_set_e1 (l : Launch) (D : va_G) (T : Nat → ClassId) (ad : Nat → Nat) (I : Nat → Int32) (R : Nat → Nat → Int32) (sz : Nat) (v : Int32) (x : Int32) (hAD : AD 7 ad) (h1 : outI v 0 7 = 1) : Met l yX4_set wsX4_set ({ frames := 2, cells := 0, slots := 0, locals := 42 }) (va_Pc [.ref (ad 0), .int v, .int x] (MB D T ad I R sz)) (va_Qi (fun r (u9 : Unit) => r = 0 ∧ True) (fun (u9 : Unit) t => va_P D vwCl (mw T ad (upd I 0 1) R) t.heap) (cA 7 ad sz)) 0 0 (cA 7 ad sz) := by
  refine Met.ofW (cc := cX4_set) (maxL := 3) (ret := (some .int)) (by decide) rfl ?_
  intro p e s m args_ below meth c s₁ B hml hv
  obtain ⟨rfl, hsz, hP, hK⟩ := hv
  have hx := B.exec
  have hb := B.bytes
  have hr := B.returns
  have hts := atoms_spec (ws := wsX4_set) B.pre
  have hown : s.vm.findClass RX4 = some m.cls := findClass_of_methodNamed B.named
  have hlocks := B.notSynchronized
  have hinX4 : ∀ w ∈ u_ws RX4 TX4 12, w ∈ wsX4_set := by decide +kernel
  subst hsz
  have hS : va_S (cA 7 ad s.heap.size) s.heap s.heap [] := va_S.rf
  have hD : ∀ I R, va_D (cA 7 ad s.heap.size) (mw T ad I R) := fun I R => mw_D hAD (fun k hk => cA_in hk)
  have hl := lv_entry ([.ref (ad 0), .int v, .int x]) (n := 3) (Nat.le_of_ble_eq_true rfl)
  rw [lg_entry_eq]
  generalize (lg_sl ([.ref (ad 0), .int v, .int x]) ++ List.replicate (3 - (lg_sl ([.ref (ad 0), .int v, .int x])).length) Slot.unset).toArray = ls at hl ⊢
  have hl : lv_has ls 3 [(0, .ref (ad 0)), (1, .int v), (2, .int x)] := hl
  refine lv_aload_n hx hb dX4_set_0 rfl (lv_at hl 0 rfl) ?_
  refine lv_iload_n hx hb dX4_set_1 rfl (lv_at hl 1 rfl) ?_
  refine cx_ri (va_runS (As := [.int v]) (rest := [.ref (ad 0)]) ⟨hx, hb, hml, hown, hts⟩ (c_X4_isOne l  v) (va_cwS 1 hts gX4_set_X4_isOne rfl rfl rfl (by decide +kernel) ⟨Nat.le_of_ble_eq_true rfl, Nat.le_of_ble_eq_true rfl⟩) ⟨pc_blind, (fun U hU hW => ⟨rfl, trivial⟩)⟩ rfl rfl hl.1 rfl (lv_room (Nat.le_of_ble_eq_true rfl)) dX4_set_2 ⟨Nat.le_of_ble_eq_true rfl, Nat.le_of_ble_eq_true rfl⟩) hS hP (fun H locs hP hS => ?_)
  refine cx_top (show (inI v 0 7) = 0 from in_of1 h1) ?_
  refine lv_if_ne (tgt := 12) hx hb dX4_set_5 (by decide) (fun c_5 => absurd c_5 (by decide)) (fun c_5 => ?_)
  refine lv_iconst (v := 1) hx hb dX4_set_8 (by decide) ?_
  refine lv_goto (tgt := 28) hx hb dX4_set_9 (by decide) ?_
  refine cx_put (D := D) (ci := 4) (v := 1) (ty := .int) (C := RX4) (T := TX4) (N := 12) hx hb hts hinX4 tyX4 tyX4_ok nmX4 hown hK hP (hD _ _) hS 0 mw_0 rfl 0 (by decide) (hts (.fieldLink RX4 29 "SquareGearsModel" "thrown" "I") (by decide +kernel)) (fun _ h9 => h9) rfl (by decide +kernel) rfl rfl (Nat.le_of_ble_eq_true rfl) mw_I0 dX4_set_28 (fun H locs hP hS => ?_)
  refine lv_aload_n hx hb dX4_set_31 rfl (lv_at hl 0 rfl) ?_
  refine va_get (D := D) (ci := 4) (v := .int 1) (C := RX4) (T := TX4) (N := 12) hx hb hts hinX4 hown hK hP 0 mw_0 rfl 0 (by decide) (hts (.fieldLink RX4 29 "SquareGearsModel" "thrown" "I") (by decide +kernel)) (fun _ h9 => h9) rfl dX4_set_32 ?_
  refine lv_if_le (tgt := 42) hx hb dX4_set_35 (by decide) (fun c_35 => absurd c_35 (by decide)) (fun c_35 => ?_)
  refine lv_iconst (v := 0) hx hb dX4_set_38 (by decide) ?_
  refine lv_goto (tgt := 48) hx hb dX4_set_39 (by decide) ?_
  exact W.iret (v := 0) hx hb hr (fun t ht hW => ⟨⟨0, (), rfl, ⟨rfl, trivial⟩, by show va_P _ _ _ _; rw [ht]; exact hP⟩, hS.F ht⟩) hS.2.2 dX4_set_48
set_option maxHeartbeats 4000000 in
set_option maxRecDepth 100000 in
theorem c_X4_set_e2 (l : Launch) (D : va_G) (T : Nat → ClassId) (ad : Nat → Nat) (I : Nat → Int32) (R : Nat → Nat → Int32) (sz : Nat) (k : Nat) (x : Int32) (hAD : AD 7 ad) (hk : k < 8) (h1 : outI x (-99) 99 = 1) : Met l yX4_set wsX4_set ({ frames := 2, cells := 0, slots := 0, locals := 42 }) (va_Pc [.ref (ad 0), .int (nI k), .int x] (MB D T ad I R sz)) (va_Qi (fun r (u9 : Unit) => r = 0 ∧ True) (fun (u9 : Unit) t => va_P D vwCl (mw T ad (upd I 0 2) R) t.heap) (cA 7 ad sz)) 0 0 (cA 7 ad sz) := by
  refine Met.ofW (cc := cX4_set) (maxL := 3) (ret := (some .int)) (by decide) rfl ?_
  intro p e s m args_ below meth c s₁ B hml hv
  obtain ⟨rfl, hsz, hP, hK⟩ := hv
  have hx := B.exec
  have hb := B.bytes
  have hr := B.returns
  have hts := atoms_spec (ws := wsX4_set) B.pre
  have hown : s.vm.findClass RX4 = some m.cls := findClass_of_methodNamed B.named
  have hlocks := B.notSynchronized
  have hinX4 : ∀ w ∈ u_ws RX4 TX4 12, w ∈ wsX4_set := by decide +kernel
  subst hsz
  have hS : va_S (cA 7 ad s.heap.size) s.heap s.heap [] := va_S.rf
  have hD : ∀ I R, va_D (cA 7 ad s.heap.size) (mw T ad I R) := fun I R => mw_D hAD (fun k hk => cA_in hk)
  have hl := lv_entry ([.ref (ad 0), .int (nI k), .int x]) (n := 3) (Nat.le_of_ble_eq_true rfl)
  rw [lg_entry_eq]
  generalize (lg_sl ([.ref (ad 0), .int (nI k), .int x]) ++ List.replicate (3 - (lg_sl ([.ref (ad 0), .int (nI k), .int x])).length) Slot.unset).toArray = ls at hl ⊢
  have hl : lv_has ls 3 [(0, .ref (ad 0)), (1, .int (nI k)), (2, .int x)] := hl
  refine lv_aload_n hx hb dX4_set_0 rfl (lv_at hl 0 rfl) ?_
  refine lv_iload_n hx hb dX4_set_1 rfl (lv_at hl 1 rfl) ?_
  refine cx_ri (va_runS (As := [.int (nI k)]) (rest := [.ref (ad 0)]) ⟨hx, hb, hml, hown, hts⟩ (c_X4_isOne l  (nI k)) (va_cwS 1 hts gX4_set_X4_isOne rfl rfl rfl (by decide +kernel) ⟨Nat.le_of_ble_eq_true rfl, Nat.le_of_ble_eq_true rfl⟩) ⟨pc_blind, (fun U hU hW => ⟨rfl, trivial⟩)⟩ rfl rfl hl.1 rfl (lv_room (Nat.le_of_ble_eq_true rfl)) dX4_set_2 ⟨Nat.le_of_ble_eq_true rfl, Nat.le_of_ble_eq_true rfl⟩) hS hP (fun H locs hP hS => ?_)
  refine cx_top (show (inI (nI k) 0 7) = 1 from in_of0 (out_8 hk)) ?_
  refine lv_if_ne (tgt := 12) hx hb dX4_set_5 (by decide) (fun c_5 => ?_) (fun c_5 => absurd c_5 (by decide))
  refine lv_iload_n hx hb dX4_set_12 rfl (lv_at hl 2 rfl) ?_
  refine lv_bipush (v := (-99)) hx hb dX4_set_13 (by decide) ?_
  refine lv_bipush (v := 99) hx hb dX4_set_15 (by decide) ?_
  refine cx_ri (va_runS (As := [.int x, .int (-99), .int 99]) (rest := [.ref (ad 0)]) ⟨hx, hb, hml, hown, hts⟩ (c_X4_in l  x (-99) 99) (va_cwS 3 hts gX4_set_X4_in rfl rfl rfl (by decide +kernel) ⟨Nat.le_of_ble_eq_true rfl, Nat.le_of_ble_eq_true rfl⟩) ⟨pc_blind, (fun U hU hW => ⟨rfl, trivial⟩)⟩ rfl rfl hl.1 rfl (lv_room (Nat.le_of_ble_eq_true rfl)) dX4_set_17 ⟨Nat.le_of_ble_eq_true rfl, Nat.le_of_ble_eq_true rfl⟩) hS hP (fun H locs hP hS => ?_)
  refine cx_top (show (inI x (-99) 99) = 0 from in_of1 h1) ?_
  refine lv_if_eq (tgt := 27) hx hb dX4_set_20 (by decide) (fun c_20 => ?_) (fun c_20 => absurd c_20 (by decide))
  refine lv_iconst (v := 2) hx hb dX4_set_27 (by decide) ?_
  refine cx_put (D := D) (ci := 4) (v := 2) (ty := .int) (C := RX4) (T := TX4) (N := 12) hx hb hts hinX4 tyX4 tyX4_ok nmX4 hown hK hP (hD _ _) hS 0 mw_0 rfl 0 (by decide) (hts (.fieldLink RX4 29 "SquareGearsModel" "thrown" "I") (by decide +kernel)) (fun _ h9 => h9) rfl (by decide +kernel) rfl rfl (Nat.le_of_ble_eq_true rfl) mw_I0 dX4_set_28 (fun H locs hP hS => ?_)
  refine lv_aload_n hx hb dX4_set_31 rfl (lv_at hl 0 rfl) ?_
  refine va_get (D := D) (ci := 4) (v := .int 2) (C := RX4) (T := TX4) (N := 12) hx hb hts hinX4 hown hK hP 0 mw_0 rfl 0 (by decide) (hts (.fieldLink RX4 29 "SquareGearsModel" "thrown" "I") (by decide +kernel)) (fun _ h9 => h9) rfl dX4_set_32 ?_
  refine lv_if_le (tgt := 42) hx hb dX4_set_35 (by decide) (fun c_35 => absurd c_35 (by decide)) (fun c_35 => ?_)
  refine lv_iconst (v := 0) hx hb dX4_set_38 (by decide) ?_
  refine lv_goto (tgt := 48) hx hb dX4_set_39 (by decide) ?_
  exact W.iret (v := 0) hx hb hr (fun t ht hW => ⟨⟨0, (), rfl, ⟨rfl, trivial⟩, by show va_P _ _ _ _; rw [ht]; exact hP⟩, hS.F ht⟩) hS.2.2 dX4_set_48
set_option maxHeartbeats 4000000 in
set_option maxRecDepth 100000 in
theorem c_X4_point_e1 (l : Launch) (D : va_G) (T : Nat → ClassId) (ad : Nat → Nat) (I : Nat → Int32) (R : Nat → Nat → Int32) (sz : Nat) (v : Int32) (x : Int32) (hAD : AD 7 ad) (h1 : outI v 0 7 = 1) : Met l yX4_point wsX4_point ({ frames := 2, cells := 0, slots := 0, locals := 42 }) (va_Pc [.ref (ad 0), .int v, .int x] (MB D T ad I R sz)) (va_Qi (fun r (u9 : Unit) => r = 0 ∧ True) (fun (u9 : Unit) t => va_P D vwCl (mw T ad (upd I 0 1) R) t.heap) (cA 7 ad sz)) 0 0 (cA 7 ad sz) := by
  refine Met.ofW (cc := cX4_point) (maxL := 3) (ret := (some .int)) (by decide) rfl ?_
  intro p e s m args_ below meth c s₁ B hml hv
  obtain ⟨rfl, hsz, hP, hK⟩ := hv
  have hx := B.exec
  have hb := B.bytes
  have hr := B.returns
  have hts := atoms_spec (ws := wsX4_point) B.pre
  have hown : s.vm.findClass RX4 = some m.cls := findClass_of_methodNamed B.named
  have hlocks := B.notSynchronized
  have hinX4 : ∀ w ∈ u_ws RX4 TX4 12, w ∈ wsX4_point := by decide +kernel
  subst hsz
  have hS : va_S (cA 7 ad s.heap.size) s.heap s.heap [] := va_S.rf
  have hD : ∀ I R, va_D (cA 7 ad s.heap.size) (mw T ad I R) := fun I R => mw_D hAD (fun k hk => cA_in hk)
  have hl := lv_entry ([.ref (ad 0), .int v, .int x]) (n := 3) (Nat.le_of_ble_eq_true rfl)
  rw [lg_entry_eq]
  generalize (lg_sl ([.ref (ad 0), .int v, .int x]) ++ List.replicate (3 - (lg_sl ([.ref (ad 0), .int v, .int x])).length) Slot.unset).toArray = ls at hl ⊢
  have hl : lv_has ls 3 [(0, .ref (ad 0)), (1, .int v), (2, .int x)] := hl
  refine lv_aload_n hx hb dX4_point_0 rfl (lv_at hl 0 rfl) ?_
  refine lv_iload_n hx hb dX4_point_1 rfl (lv_at hl 1 rfl) ?_
  refine cx_ri (va_runS (As := [.int v]) (rest := [.ref (ad 0)]) ⟨hx, hb, hml, hown, hts⟩ (c_X4_isOne l  v) (va_cwS 1 hts gX4_point_X4_isOne rfl rfl rfl (by decide +kernel) ⟨Nat.le_of_ble_eq_true rfl, Nat.le_of_ble_eq_true rfl⟩) ⟨pc_blind, (fun U hU hW => ⟨rfl, trivial⟩)⟩ rfl rfl hl.1 rfl (lv_room (Nat.le_of_ble_eq_true rfl)) dX4_point_2 ⟨Nat.le_of_ble_eq_true rfl, Nat.le_of_ble_eq_true rfl⟩) hS hP (fun H locs hP hS => ?_)
  refine cx_top (show (inI v 0 7) = 0 from in_of1 h1) ?_
  refine lv_if_ne (tgt := 12) hx hb dX4_point_5 (by decide) (fun c_5 => absurd c_5 (by decide)) (fun c_5 => ?_)
  refine lv_iconst (v := 1) hx hb dX4_point_8 (by decide) ?_
  refine lv_goto (tgt := 30) hx hb dX4_point_9 (by decide) ?_
  refine cx_put (D := D) (ci := 4) (v := 1) (ty := .int) (C := RX4) (T := TX4) (N := 12) hx hb hts hinX4 tyX4 tyX4_ok nmX4 hown hK hP (hD _ _) hS 0 mw_0 rfl 0 (by decide) (hts (.fieldLink RX4 29 "SquareGearsModel" "thrown" "I") (by decide +kernel)) (fun _ h9 => h9) rfl (by decide +kernel) rfl rfl (Nat.le_of_ble_eq_true rfl) mw_I0 dX4_point_30 (fun H locs hP hS => ?_)
  refine lv_aload_n hx hb dX4_point_33 rfl (lv_at hl 0 rfl) ?_
  refine va_get (D := D) (ci := 4) (v := .int 1) (C := RX4) (T := TX4) (N := 12) hx hb hts hinX4 hown hK hP 0 mw_0 rfl 0 (by decide) (hts (.fieldLink RX4 29 "SquareGearsModel" "thrown" "I") (by decide +kernel)) (fun _ h9 => h9) rfl dX4_point_34 ?_
  refine lv_if_le (tgt := 44) hx hb dX4_point_37 (by decide) (fun c_37 => absurd c_37 (by decide)) (fun c_37 => ?_)
  refine lv_iconst (v := 0) hx hb dX4_point_40 (by decide) ?_
  refine lv_goto (tgt := 53) hx hb dX4_point_41 (by decide) ?_
  exact W.iret (v := 0) hx hb hr (fun t ht hW => ⟨⟨0, (), rfl, ⟨rfl, trivial⟩, by show va_P _ _ _ _; rw [ht]; exact hP⟩, hS.F ht⟩) hS.2.2 dX4_point_53
set_option maxHeartbeats 4000000 in
set_option maxRecDepth 100000 in
theorem c_X4_point_e2 (l : Launch) (D : va_G) (T : Nat → ClassId) (ad : Nat → Nat) (I : Nat → Int32) (R : Nat → Nat → Int32) (sz : Nat) (k : Nat) (x : Int32) (hAD : AD 7 ad) (hk : k < 8) (h1 : outI x (-9999) 9999 = 1) : Met l yX4_point wsX4_point ({ frames := 2, cells := 0, slots := 0, locals := 42 }) (va_Pc [.ref (ad 0), .int (nI k), .int x] (MB D T ad I R sz)) (va_Qi (fun r (u9 : Unit) => r = 0 ∧ True) (fun (u9 : Unit) t => va_P D vwCl (mw T ad (upd I 0 2) R) t.heap) (cA 7 ad sz)) 0 0 (cA 7 ad sz) := by
  refine Met.ofW (cc := cX4_point) (maxL := 3) (ret := (some .int)) (by decide) rfl ?_
  intro p e s m args_ below meth c s₁ B hml hv
  obtain ⟨rfl, hsz, hP, hK⟩ := hv
  have hx := B.exec
  have hb := B.bytes
  have hr := B.returns
  have hts := atoms_spec (ws := wsX4_point) B.pre
  have hown : s.vm.findClass RX4 = some m.cls := findClass_of_methodNamed B.named
  have hlocks := B.notSynchronized
  have hinX4 : ∀ w ∈ u_ws RX4 TX4 12, w ∈ wsX4_point := by decide +kernel
  subst hsz
  have hS : va_S (cA 7 ad s.heap.size) s.heap s.heap [] := va_S.rf
  have hD : ∀ I R, va_D (cA 7 ad s.heap.size) (mw T ad I R) := fun I R => mw_D hAD (fun k hk => cA_in hk)
  have hl := lv_entry ([.ref (ad 0), .int (nI k), .int x]) (n := 3) (Nat.le_of_ble_eq_true rfl)
  rw [lg_entry_eq]
  generalize (lg_sl ([.ref (ad 0), .int (nI k), .int x]) ++ List.replicate (3 - (lg_sl ([.ref (ad 0), .int (nI k), .int x])).length) Slot.unset).toArray = ls at hl ⊢
  have hl : lv_has ls 3 [(0, .ref (ad 0)), (1, .int (nI k)), (2, .int x)] := hl
  refine lv_aload_n hx hb dX4_point_0 rfl (lv_at hl 0 rfl) ?_
  refine lv_iload_n hx hb dX4_point_1 rfl (lv_at hl 1 rfl) ?_
  refine cx_ri (va_runS (As := [.int (nI k)]) (rest := [.ref (ad 0)]) ⟨hx, hb, hml, hown, hts⟩ (c_X4_isOne l  (nI k)) (va_cwS 1 hts gX4_point_X4_isOne rfl rfl rfl (by decide +kernel) ⟨Nat.le_of_ble_eq_true rfl, Nat.le_of_ble_eq_true rfl⟩) ⟨pc_blind, (fun U hU hW => ⟨rfl, trivial⟩)⟩ rfl rfl hl.1 rfl (lv_room (Nat.le_of_ble_eq_true rfl)) dX4_point_2 ⟨Nat.le_of_ble_eq_true rfl, Nat.le_of_ble_eq_true rfl⟩) hS hP (fun H locs hP hS => ?_)
  refine cx_top (show (inI (nI k) 0 7) = 1 from in_of0 (out_8 hk)) ?_
  refine lv_if_ne (tgt := 12) hx hb dX4_point_5 (by decide) (fun c_5 => ?_) (fun c_5 => absurd c_5 (by decide))
  refine lv_iload_n hx hb dX4_point_12 rfl (lv_at hl 2 rfl) ?_
  refine lv_sipush (v := (-9999)) hx hb dX4_point_13 (by decide) ?_
  refine lv_sipush (v := 9999) hx hb dX4_point_16 (by decide) ?_
  refine cx_ri (va_runS (As := [.int x, .int (-9999), .int 9999]) (rest := [.ref (ad 0)]) ⟨hx, hb, hml, hown, hts⟩ (c_X4_in l  x (-9999) 9999) (va_cwS 3 hts gX4_point_X4_in rfl rfl rfl (by decide +kernel) ⟨Nat.le_of_ble_eq_true rfl, Nat.le_of_ble_eq_true rfl⟩) ⟨pc_blind, (fun U hU hW => ⟨rfl, trivial⟩)⟩ rfl rfl hl.1 rfl (lv_room (Nat.le_of_ble_eq_true rfl)) dX4_point_19 ⟨Nat.le_of_ble_eq_true rfl, Nat.le_of_ble_eq_true rfl⟩) hS hP (fun H locs hP hS => ?_)
  refine cx_top (show (inI x (-9999) 9999) = 0 from in_of1 h1) ?_
  refine lv_if_eq (tgt := 29) hx hb dX4_point_22 (by decide) (fun c_22 => ?_) (fun c_22 => absurd c_22 (by decide))
  refine lv_iconst (v := 2) hx hb dX4_point_29 (by decide) ?_
  refine cx_put (D := D) (ci := 4) (v := 2) (ty := .int) (C := RX4) (T := TX4) (N := 12) hx hb hts hinX4 tyX4 tyX4_ok nmX4 hown hK hP (hD _ _) hS 0 mw_0 rfl 0 (by decide) (hts (.fieldLink RX4 29 "SquareGearsModel" "thrown" "I") (by decide +kernel)) (fun _ h9 => h9) rfl (by decide +kernel) rfl rfl (Nat.le_of_ble_eq_true rfl) mw_I0 dX4_point_30 (fun H locs hP hS => ?_)
  refine lv_aload_n hx hb dX4_point_33 rfl (lv_at hl 0 rfl) ?_
  refine va_get (D := D) (ci := 4) (v := .int 2) (C := RX4) (T := TX4) (N := 12) hx hb hts hinX4 hown hK hP 0 mw_0 rfl 0 (by decide) (hts (.fieldLink RX4 29 "SquareGearsModel" "thrown" "I") (by decide +kernel)) (fun _ h9 => h9) rfl dX4_point_34 ?_
  refine lv_if_le (tgt := 44) hx hb dX4_point_37 (by decide) (fun c_37 => absurd c_37 (by decide)) (fun c_37 => ?_)
  refine lv_iconst (v := 0) hx hb dX4_point_40 (by decide) ?_
  refine lv_goto (tgt := 53) hx hb dX4_point_41 (by decide) ?_
  exact W.iret (v := 0) hx hb hr (fun t ht hW => ⟨⟨0, (), rfl, ⟨rfl, trivial⟩, by show va_P _ _ _ _; rw [ht]; exact hP⟩, hS.F ht⟩) hS.2.2 dX4_point_53
set_option maxHeartbeats 4000000 in
set_option maxRecDepth 100000 in
theorem c_X4_lose_e1 (l : Launch) (D : va_G) (T : Nat → ClassId) (ad : Nat → Nat) (I : Nat → Int32) (R : Nat → Nat → Int32) (sz : Nat) (v : Int32) (hAD : AD 7 ad) (h1 : outI v 0 7 = 1) : Met l yX4_lose wsX4_lose ({ frames := 2, cells := 0, slots := 0, locals := 42 }) (va_Pc [.ref (ad 0), .int v] (MB D T ad I R sz)) (va_Qi (fun r (u9 : Unit) => r = 0 ∧ True) (fun (u9 : Unit) t => va_P D vwCl (mw T ad (upd I 0 1) R) t.heap) (cA 7 ad sz)) 0 0 (cA 7 ad sz) := by
  refine Met.ofW (cc := cX4_lose) (maxL := 2) (ret := (some .int)) (by decide) rfl ?_
  intro p e s m args_ below meth c s₁ B hml hv
  obtain ⟨rfl, hsz, hP, hK⟩ := hv
  have hx := B.exec
  have hb := B.bytes
  have hr := B.returns
  have hts := atoms_spec (ws := wsX4_lose) B.pre
  have hown : s.vm.findClass RX4 = some m.cls := findClass_of_methodNamed B.named
  have hlocks := B.notSynchronized
  have hinX4 : ∀ w ∈ u_ws RX4 TX4 12, w ∈ wsX4_lose := by decide +kernel
  subst hsz
  have hS : va_S (cA 7 ad s.heap.size) s.heap s.heap [] := va_S.rf
  have hD : ∀ I R, va_D (cA 7 ad s.heap.size) (mw T ad I R) := fun I R => mw_D hAD (fun k hk => cA_in hk)
  have hl := lv_entry ([.ref (ad 0), .int v]) (n := 2) (Nat.le_of_ble_eq_true rfl)
  rw [lg_entry_eq]
  generalize (lg_sl ([.ref (ad 0), .int v]) ++ List.replicate (2 - (lg_sl ([.ref (ad 0), .int v])).length) Slot.unset).toArray = ls at hl ⊢
  have hl : lv_has ls 2 [(0, .ref (ad 0)), (1, .int v)] := hl
  refine lv_aload_n hx hb dX4_lose_0 rfl (lv_at hl 0 rfl) ?_
  refine lv_iload_n hx hb dX4_lose_1 rfl (lv_at hl 1 rfl) ?_
  refine cx_ri (va_runS (As := [.int v]) (rest := [.ref (ad 0)]) ⟨hx, hb, hml, hown, hts⟩ (c_X4_isOne l  v) (va_cwS 1 hts gX4_lose_X4_isOne rfl rfl rfl (by decide +kernel) ⟨Nat.le_of_ble_eq_true rfl, Nat.le_of_ble_eq_true rfl⟩) ⟨pc_blind, (fun U hU hW => ⟨rfl, trivial⟩)⟩ rfl rfl hl.1 rfl (lv_room (Nat.le_of_ble_eq_true rfl)) dX4_lose_2 ⟨Nat.le_of_ble_eq_true rfl, Nat.le_of_ble_eq_true rfl⟩) hS hP (fun H locs hP hS => ?_)
  refine cx_top (show (inI v 0 7) = 0 from in_of1 h1) ?_
  refine lv_if_eq (tgt := 12) hx hb dX4_lose_5 (by decide) (fun c_5 => ?_) (fun c_5 => absurd c_5 (by decide))
  refine lv_iconst (v := 1) hx hb dX4_lose_12 (by decide) ?_
  refine cx_put (D := D) (ci := 4) (v := 1) (ty := .int) (C := RX4) (T := TX4) (N := 12) hx hb hts hinX4 tyX4 tyX4_ok nmX4 hown hK hP (hD _ _) hS 0 mw_0 rfl 0 (by decide) (hts (.fieldLink RX4 29 "SquareGearsModel" "thrown" "I") (by decide +kernel)) (fun _ h9 => h9) rfl (by decide +kernel) rfl rfl (Nat.le_of_ble_eq_true rfl) mw_I0 dX4_lose_13 (fun H locs hP hS => ?_)
  refine lv_aload_n hx hb dX4_lose_16 rfl (lv_at hl 0 rfl) ?_
  refine va_get (D := D) (ci := 4) (v := .int 1) (C := RX4) (T := TX4) (N := 12) hx hb hts hinX4 hown hK hP 0 mw_0 rfl 0 (by decide) (hts (.fieldLink RX4 29 "SquareGearsModel" "thrown" "I") (by decide +kernel)) (fun _ h9 => h9) rfl dX4_lose_17 ?_
  refine lv_if_le (tgt := 25) hx hb dX4_lose_20 (by decide) (fun c_20 => absurd c_20 (by decide)) (fun c_20 => ?_)
  refine lv_iconst (v := 0) hx hb dX4_lose_23 (by decide) ?_
  exact W.iret (v := 0) hx hb hr (fun t ht hW => ⟨⟨0, (), rfl, ⟨rfl, trivial⟩, by show va_P _ _ _ _; rw [ht]; exact hP⟩, hS.F ht⟩) hS.2.2 dX4_lose_24
set_option maxHeartbeats 4000000 in
set_option maxRecDepth 100000 in
theorem c_X4_turn_e1 (l : Launch) (D : va_G) (T : Nat → ClassId) (ad : Nat → Nat) (I : Nat → Int32) (R : Nat → Nat → Int32) (sz : Nat) (v : Int32) (hAD : AD 7 ad) (h1 : outI v 0 7 = 1) : Met l yX4_turn wsX4_turn ({ frames := 2, cells := 0, slots := 0, locals := 42 }) (va_Pc [.ref (ad 0), .int v] (MB D T ad I R sz)) (va_Qi (fun r (u9 : Unit) => r = 0 ∧ True) (fun (u9 : Unit) t => va_P D vwCl (mw T ad (upd I 0 1) R) t.heap) (cA 7 ad sz)) 0 0 (cA 7 ad sz) := by
  refine Met.ofW (cc := cX4_turn) (maxL := 4) (ret := (some .int)) (by decide) rfl ?_
  intro p e s m args_ below meth c s₁ B hml hv
  obtain ⟨rfl, hsz, hP, hK⟩ := hv
  have hx := B.exec
  have hb := B.bytes
  have hr := B.returns
  have hts := atoms_spec (ws := wsX4_turn) B.pre
  have hown : s.vm.findClass RX4 = some m.cls := findClass_of_methodNamed B.named
  have hlocks := B.notSynchronized
  have hinX4 : ∀ w ∈ u_ws RX4 TX4 12, w ∈ wsX4_turn := by decide +kernel
  subst hsz
  have hS : va_S (cA 7 ad s.heap.size) s.heap s.heap [] := va_S.rf
  have hD : ∀ I R, va_D (cA 7 ad s.heap.size) (mw T ad I R) := fun I R => mw_D hAD (fun k hk => cA_in hk)
  have hl := lv_entry ([.ref (ad 0), .int v]) (n := 4) (Nat.le_of_ble_eq_true rfl)
  rw [lg_entry_eq]
  generalize (lg_sl ([.ref (ad 0), .int v]) ++ List.replicate (4 - (lg_sl ([.ref (ad 0), .int v])).length) Slot.unset).toArray = ls at hl ⊢
  have hl : lv_has ls 4 [(0, .ref (ad 0)), (1, .int v)] := hl
  refine lv_aload_n hx hb dX4_turn_0 rfl (lv_at hl 0 rfl) ?_
  refine lv_iload_n hx hb dX4_turn_1 rfl (lv_at hl 1 rfl) ?_
  refine cx_ri (va_runS (As := [.int v]) (rest := [.ref (ad 0)]) ⟨hx, hb, hml, hown, hts⟩ (c_X4_isOne l  v) (va_cwS 1 hts gX4_turn_X4_isOne rfl rfl rfl (by decide +kernel) ⟨Nat.le_of_ble_eq_true rfl, Nat.le_of_ble_eq_true rfl⟩) ⟨pc_blind, (fun U hU hW => ⟨rfl, trivial⟩)⟩ rfl rfl hl.1 rfl (lv_room (Nat.le_of_ble_eq_true rfl)) dX4_turn_2 ⟨Nat.le_of_ble_eq_true rfl, Nat.le_of_ble_eq_true rfl⟩) hS hP (fun H locs hP hS => ?_)
  refine cx_top (show (inI v 0 7) = 0 from in_of1 h1) ?_
  refine lv_if_eq (tgt := 12) hx hb dX4_turn_5 (by decide) (fun c_5 => ?_) (fun c_5 => absurd c_5 (by decide))
  refine lv_iconst (v := 1) hx hb dX4_turn_12 (by decide) ?_
  refine cx_put (D := D) (ci := 4) (v := 1) (ty := .int) (C := RX4) (T := TX4) (N := 12) hx hb hts hinX4 tyX4 tyX4_ok nmX4 hown hK hP (hD _ _) hS 0 mw_0 rfl 0 (by decide) (hts (.fieldLink RX4 29 "SquareGearsModel" "thrown" "I") (by decide +kernel)) (fun _ h9 => h9) rfl (by decide +kernel) rfl rfl (Nat.le_of_ble_eq_true rfl) mw_I0 dX4_turn_13 (fun H locs hP hS => ?_)
  refine lv_aload_n hx hb dX4_turn_16 rfl (lv_at hl 0 rfl) ?_
  refine va_get (D := D) (ci := 4) (v := .int 1) (C := RX4) (T := TX4) (N := 12) hx hb hts hinX4 hown hK hP 0 mw_0 rfl 0 (by decide) (hts (.fieldLink RX4 29 "SquareGearsModel" "thrown" "I") (by decide +kernel)) (fun _ h9 => h9) rfl dX4_turn_17 ?_
  refine lv_if_le (tgt := 25) hx hb dX4_turn_20 (by decide) (fun c_20 => absurd c_20 (by decide)) (fun c_20 => ?_)
  refine lv_iconst (v := 0) hx hb dX4_turn_23 (by decide) ?_
  exact W.iret (v := 0) hx hb hr (fun t ht hW => ⟨⟨0, (), rfl, ⟨rfl, trivial⟩, by show va_P _ _ _ _; rw [ht]; exact hP⟩, hS.F ht⟩) hS.2.2 dX4_turn_24
set_option maxHeartbeats 4000000 in
set_option maxRecDepth 100000 in
theorem c_X4_drop_e1 (l : Launch) (D : va_G) (T : Nat → ClassId) (ad : Nat → Nat) (I : Nat → Int32) (R : Nat → Nat → Int32) (sz : Nat) (x : Int32) (hAD : AD 7 ad) (h1 : outI x 1 99 = 1) : Met l yX4_drop wsX4_drop ({ frames := 1, cells := 0, slots := 0, locals := 22 }) (va_Pc [.ref (ad 0), .int x] (MB D T ad I R sz)) (va_Qi (fun r (u9 : Unit) => r = 0 ∧ True) (fun (u9 : Unit) t => va_P D vwCl (mw T ad (upd I 0 1) R) t.heap) (cA 7 ad sz)) 0 0 (cA 7 ad sz) := by
  refine Met.ofW (cc := cX4_drop) (maxL := 4) (ret := (some .int)) (by decide) rfl ?_
  intro p e s m args_ below meth c s₁ B hml hv
  obtain ⟨rfl, hsz, hP, hK⟩ := hv
  have hx := B.exec
  have hb := B.bytes
  have hr := B.returns
  have hts := atoms_spec (ws := wsX4_drop) B.pre
  have hown : s.vm.findClass RX4 = some m.cls := findClass_of_methodNamed B.named
  have hlocks := B.notSynchronized
  have hinX4 : ∀ w ∈ u_ws RX4 TX4 12, w ∈ wsX4_drop := by decide +kernel
  subst hsz
  have hS : va_S (cA 7 ad s.heap.size) s.heap s.heap [] := va_S.rf
  have hD : ∀ I R, va_D (cA 7 ad s.heap.size) (mw T ad I R) := fun I R => mw_D hAD (fun k hk => cA_in hk)
  have hl := lv_entry ([.ref (ad 0), .int x]) (n := 4) (Nat.le_of_ble_eq_true rfl)
  rw [lg_entry_eq]
  generalize (lg_sl ([.ref (ad 0), .int x]) ++ List.replicate (4 - (lg_sl ([.ref (ad 0), .int x])).length) Slot.unset).toArray = ls at hl ⊢
  have hl : lv_has ls 4 [(0, .ref (ad 0)), (1, .int x)] := hl
  refine lv_aload_n hx hb dX4_drop_0 rfl (lv_at hl 0 rfl) ?_
  refine lv_iload_n hx hb dX4_drop_1 rfl (lv_at hl 1 rfl) ?_
  refine lv_iconst (v := 1) hx hb dX4_drop_2 (by decide) ?_
  refine lv_bipush (v := 99) hx hb dX4_drop_3 (by decide) ?_
  refine cx_ri (va_runS (As := [.int x, .int 1, .int 99]) (rest := [.ref (ad 0)]) ⟨hx, hb, hml, hown, hts⟩ (c_X4_in l  x 1 99) (va_cwS 3 hts gX4_drop_X4_in rfl rfl rfl (by decide +kernel) ⟨Nat.le_of_ble_eq_true rfl, Nat.le_of_ble_eq_true rfl⟩) ⟨pc_blind, (fun U hU hW => ⟨rfl, trivial⟩)⟩ rfl rfl hl.1 rfl (lv_room (Nat.le_of_ble_eq_true rfl)) dX4_drop_5 ⟨Nat.le_of_ble_eq_true rfl, Nat.le_of_ble_eq_true rfl⟩) hS hP (fun H locs hP hS => ?_)
  refine cx_top (show (inI x 1 99) = 0 from in_of1 h1) ?_
  refine lv_if_eq (tgt := 15) hx hb dX4_drop_8 (by decide) (fun c_8 => ?_) (fun c_8 => absurd c_8 (by decide))
  refine lv_iconst (v := 1) hx hb dX4_drop_15 (by decide) ?_
  refine cx_put (D := D) (ci := 4) (v := 1) (ty := .int) (C := RX4) (T := TX4) (N := 12) hx hb hts hinX4 tyX4 tyX4_ok nmX4 hown hK hP (hD _ _) hS 0 mw_0 rfl 0 (by decide) (hts (.fieldLink RX4 29 "SquareGearsModel" "thrown" "I") (by decide +kernel)) (fun _ h9 => h9) rfl (by decide +kernel) rfl rfl (Nat.le_of_ble_eq_true rfl) mw_I0 dX4_drop_16 (fun H locs hP hS => ?_)
  refine lv_aload_n hx hb dX4_drop_19 rfl (lv_at hl 0 rfl) ?_
  refine va_get (D := D) (ci := 4) (v := .int 1) (C := RX4) (T := TX4) (N := 12) hx hb hts hinX4 hown hK hP 0 mw_0 rfl 0 (by decide) (hts (.fieldLink RX4 29 "SquareGearsModel" "thrown" "I") (by decide +kernel)) (fun _ h9 => h9) rfl dX4_drop_20 ?_
  refine lv_if_le (tgt := 28) hx hb dX4_drop_23 (by decide) (fun c_23 => absurd c_23 (by decide)) (fun c_23 => ?_)
  refine lv_iconst (v := 0) hx hb dX4_drop_26 (by decide) ?_
  exact W.iret (v := 0) hx hb hr (fun t ht hW => ⟨⟨0, (), rfl, ⟨rfl, trivial⟩, by show va_P _ _ _ _; rw [ht]; exact hP⟩, hS.F ht⟩) hS.2.2 dX4_drop_27
set_option maxHeartbeats 4000000 in
set_option maxRecDepth 100000 in
theorem c_X4_append_e1 (l : Launch) (D : va_G) (T : Nat → ClassId) (ad : Nat → Nat) (I : Nat → Int32) (R : Nat → Nat → Int32) (sz : Nat) (x : Int32) (hAD : AD 7 ad) (h1 : outI x 33 126 = 1) : Met l yX4_append wsX4_append ({ frames := 1, cells := 0, slots := 0, locals := 22 }) (va_Pc [.ref (ad 0), .int x] (MB D T ad I R sz)) (va_Qi (fun r (u9 : Unit) => r = 0 ∧ True) (fun (u9 : Unit) t => va_P D vwCl (mw T ad (upd I 0 1) R) t.heap) (cA 7 ad sz)) 0 0 (cA 7 ad sz) := by
  refine Met.ofW (cc := cX4_append) (maxL := 2) (ret := (some .int)) (by decide) rfl ?_
  intro p e s m args_ below meth c s₁ B hml hv
  obtain ⟨rfl, hsz, hP, hK⟩ := hv
  have hx := B.exec
  have hb := B.bytes
  have hr := B.returns
  have hts := atoms_spec (ws := wsX4_append) B.pre
  have hown : s.vm.findClass RX4 = some m.cls := findClass_of_methodNamed B.named
  have hlocks := B.notSynchronized
  have hinX4 : ∀ w ∈ u_ws RX4 TX4 12, w ∈ wsX4_append := by decide +kernel
  subst hsz
  have hS : va_S (cA 7 ad s.heap.size) s.heap s.heap [] := va_S.rf
  have hD : ∀ I R, va_D (cA 7 ad s.heap.size) (mw T ad I R) := fun I R => mw_D hAD (fun k hk => cA_in hk)
  have hl := lv_entry ([.ref (ad 0), .int x]) (n := 2) (Nat.le_of_ble_eq_true rfl)
  rw [lg_entry_eq]
  generalize (lg_sl ([.ref (ad 0), .int x]) ++ List.replicate (2 - (lg_sl ([.ref (ad 0), .int x])).length) Slot.unset).toArray = ls at hl ⊢
  have hl : lv_has ls 2 [(0, .ref (ad 0)), (1, .int x)] := hl
  refine lv_aload_n hx hb dX4_append_0 rfl (lv_at hl 0 rfl) ?_
  refine lv_iload_n hx hb dX4_append_1 rfl (lv_at hl 1 rfl) ?_
  refine lv_bipush (v := 33) hx hb dX4_append_2 (by decide) ?_
  refine lv_bipush (v := 126) hx hb dX4_append_4 (by decide) ?_
  refine cx_ri (va_runS (As := [.int x, .int 33, .int 126]) (rest := [.ref (ad 0)]) ⟨hx, hb, hml, hown, hts⟩ (c_X4_in l  x 33 126) (va_cwS 3 hts gX4_append_X4_in rfl rfl rfl (by decide +kernel) ⟨Nat.le_of_ble_eq_true rfl, Nat.le_of_ble_eq_true rfl⟩) ⟨pc_blind, (fun U hU hW => ⟨rfl, trivial⟩)⟩ rfl rfl hl.1 rfl (lv_room (Nat.le_of_ble_eq_true rfl)) dX4_append_6 ⟨Nat.le_of_ble_eq_true rfl, Nat.le_of_ble_eq_true rfl⟩) hS hP (fun H locs hP hS => ?_)
  refine cx_top (show (inI x 33 126) = 0 from in_of1 h1) ?_
  refine lv_if_ne (tgt := 16) hx hb dX4_append_9 (by decide) (fun c_9 => absurd c_9 (by decide)) (fun c_9 => ?_)
  refine lv_iconst (v := 1) hx hb dX4_append_12 (by decide) ?_
  refine lv_goto (tgt := 30) hx hb dX4_append_13 (by decide) ?_
  refine cx_put (D := D) (ci := 4) (v := 1) (ty := .int) (C := RX4) (T := TX4) (N := 12) hx hb hts hinX4 tyX4 tyX4_ok nmX4 hown hK hP (hD _ _) hS 0 mw_0 rfl 0 (by decide) (hts (.fieldLink RX4 29 "SquareGearsModel" "thrown" "I") (by decide +kernel)) (fun _ h9 => h9) rfl (by decide +kernel) rfl rfl (Nat.le_of_ble_eq_true rfl) mw_I0 dX4_append_30 (fun H locs hP hS => ?_)
  refine lv_aload_n hx hb dX4_append_33 rfl (lv_at hl 0 rfl) ?_
  refine va_get (D := D) (ci := 4) (v := .int 1) (C := RX4) (T := TX4) (N := 12) hx hb hts hinX4 hown hK hP 0 mw_0 rfl 0 (by decide) (hts (.fieldLink RX4 29 "SquareGearsModel" "thrown" "I") (by decide +kernel)) (fun _ h9 => h9) rfl dX4_append_34 ?_
  refine lv_if_le (tgt := 42) hx hb dX4_append_37 (by decide) (fun c_37 => absurd c_37 (by decide)) (fun c_37 => ?_)
  refine lv_iconst (v := 0) hx hb dX4_append_40 (by decide) ?_
  exact W.iret (v := 0) hx hb hr (fun t ht hW => ⟨⟨0, (), rfl, ⟨rfl, trivial⟩, by show va_P _ _ _ _; rw [ht]; exact hP⟩, hS.F ht⟩) hS.2.2 dX4_append_41
set_option maxHeartbeats 4000000 in
set_option maxRecDepth 100000 in
theorem c_X4_append_e2 (l : Launch) (D : va_G) (T : Nat → ClassId) (ad : Nat → Nat) (I : Nat → Int32) (R : Nat → Nat → Int32) (sz : Nat) (q : Nat) (hAD : AD 7 ad) (hq1 : 33 ≤ q) (hq2 : q ≤ 126) (hI2 : I 2 = 60) : Met l yX4_append wsX4_append ({ frames := 1, cells := 0, slots := 0, locals := 22 }) (va_Pc [.ref (ad 0), .int (nI q)] (MB D T ad I R sz)) (va_Qi (fun r (u9 : Unit) => r = 0 ∧ True) (fun (u9 : Unit) t => va_P D vwCl (mw T ad (upd I 0 2) R) t.heap) (cA 7 ad sz)) 0 0 (cA 7 ad sz) := by
  refine Met.ofW (cc := cX4_append) (maxL := 2) (ret := (some .int)) (by decide) rfl ?_
  intro p e s m args_ below meth c s₁ B hml hv
  obtain ⟨rfl, hsz, hP, hK⟩ := hv
  have hx := B.exec
  have hb := B.bytes
  have hr := B.returns
  have hts := atoms_spec (ws := wsX4_append) B.pre
  have hown : s.vm.findClass RX4 = some m.cls := findClass_of_methodNamed B.named
  have hlocks := B.notSynchronized
  have hinX4 : ∀ w ∈ u_ws RX4 TX4 12, w ∈ wsX4_append := by decide +kernel
  subst hsz
  have hS : va_S (cA 7 ad s.heap.size) s.heap s.heap [] := va_S.rf
  have hD : ∀ I R, va_D (cA 7 ad s.heap.size) (mw T ad I R) := fun I R => mw_D hAD (fun k hk => cA_in hk)
  have hl := lv_entry ([.ref (ad 0), .int (nI q)]) (n := 2) (Nat.le_of_ble_eq_true rfl)
  rw [lg_entry_eq]
  generalize (lg_sl ([.ref (ad 0), .int (nI q)]) ++ List.replicate (2 - (lg_sl ([.ref (ad 0), .int (nI q)])).length) Slot.unset).toArray = ls at hl ⊢
  have hl : lv_has ls 2 [(0, .ref (ad 0)), (1, .int (nI q))] := hl
  refine lv_aload_n hx hb dX4_append_0 rfl (lv_at hl 0 rfl) ?_
  refine lv_iload_n hx hb dX4_append_1 rfl (lv_at hl 1 rfl) ?_
  refine lv_bipush (v := 33) hx hb dX4_append_2 (by decide) ?_
  refine lv_bipush (v := 126) hx hb dX4_append_4 (by decide) ?_
  refine cx_ri (va_runS (As := [.int (nI q), .int 33, .int 126]) (rest := [.ref (ad 0)]) ⟨hx, hb, hml, hown, hts⟩ (c_X4_in l  (nI q) 33 126) (va_cwS 3 hts gX4_append_X4_in rfl rfl rfl (by decide +kernel) ⟨Nat.le_of_ble_eq_true rfl, Nat.le_of_ble_eq_true rfl⟩) ⟨pc_blind, (fun U hU hW => ⟨rfl, trivial⟩)⟩ rfl rfl hl.1 rfl (lv_room (Nat.le_of_ble_eq_true rfl)) dX4_append_6 ⟨Nat.le_of_ble_eq_true rfl, Nat.le_of_ble_eq_true rfl⟩) hS hP (fun H locs hP hS => ?_)
  refine cx_top (show (inI (nI q) 33 126) = 1 from in_of0 (out_q hq1 hq2)) ?_
  refine lv_if_ne (tgt := 16) hx hb dX4_append_9 (by decide) (fun c_9 => ?_) (fun c_9 => absurd c_9 (by decide))
  refine lv_aload_n hx hb dX4_append_16 rfl (lv_at hl 0 rfl) ?_
  refine va_get (D := D) (ci := 4) (v := .int (I 2)) (C := RX4) (T := TX4) (N := 12) hx hb hts hinX4 hown hK hP 0 mw_0 rfl 7 (by decide) (hts (.fieldLink RX4 74 "SquareGearsModel" "length" "I") (by decide +kernel)) (fun _ h9 => h9) rfl dX4_append_17 ?_
  refine cx_top (show (I 2) = 60 from hI2) ?_
  refine lv_bipush (v := 60) hx hb dX4_append_20 (by decide) ?_
  refine lv_icmp_ne (tgt := 29) hx hb dX4_append_22 (by decide) (fun c_22 => absurd c_22 (by decide)) (fun c_22 => ?_)
  refine lv_iconst (v := 2) hx hb dX4_append_25 (by decide) ?_
  refine lv_goto (tgt := 30) hx hb dX4_append_26 (by decide) ?_
  refine cx_put (D := D) (ci := 4) (v := 2) (ty := .int) (C := RX4) (T := TX4) (N := 12) hx hb hts hinX4 tyX4 tyX4_ok nmX4 hown hK hP (hD _ _) hS 0 mw_0 rfl 0 (by decide) (hts (.fieldLink RX4 29 "SquareGearsModel" "thrown" "I") (by decide +kernel)) (fun _ h9 => h9) rfl (by decide +kernel) rfl rfl (Nat.le_of_ble_eq_true rfl) mw_I0 dX4_append_30 (fun H locs hP hS => ?_)
  refine lv_aload_n hx hb dX4_append_33 rfl (lv_at hl 0 rfl) ?_
  refine va_get (D := D) (ci := 4) (v := .int 2) (C := RX4) (T := TX4) (N := 12) hx hb hts hinX4 hown hK hP 0 mw_0 rfl 0 (by decide) (hts (.fieldLink RX4 29 "SquareGearsModel" "thrown" "I") (by decide +kernel)) (fun _ h9 => h9) rfl dX4_append_34 ?_
  refine lv_if_le (tgt := 42) hx hb dX4_append_37 (by decide) (fun c_37 => absurd c_37 (by decide)) (fun c_37 => ?_)
  refine lv_iconst (v := 0) hx hb dX4_append_40 (by decide) ?_
  exact W.iret (v := 0) hx hb hr (fun t ht hW => ⟨⟨0, (), rfl, ⟨rfl, trivial⟩, by show va_P _ _ _ _; rw [ht]; exact hP⟩, hS.F ht⟩) hS.2.2 dX4_append_41
set_option maxHeartbeats 4000000 in
set_option maxRecDepth 100000 in
theorem c_X4_undo_e1 (l : Launch) (D : va_G) (T : Nat → ClassId) (ad : Nat → Nat) (I : Nat → Int32) (R : Nat → Nat → Int32) (sz : Nat) (hAD : AD 7 ad) (hI1 : I 1 = 0) : Met l yX4_undo wsX4_undo ({ frames := 0, cells := 0, slots := 0, locals := 0 }) (va_Pc [.ref (ad 0)] (MB D T ad I R sz)) (va_Qi (fun r (u9 : Unit) => r = 0 ∧ True) (fun (u9 : Unit) t => va_P D vwCl (mw T ad (upd I 0 1) R) t.heap) (cA 7 ad sz)) 0 0 (cA 7 ad sz) := by
  refine Met.ofW (cc := cX4_undo) (maxL := 2) (ret := (some .int)) (by decide) rfl ?_
  intro p e s m args_ below meth c s₁ B hml hv
  obtain ⟨rfl, hsz, hP, hK⟩ := hv
  have hx := B.exec
  have hb := B.bytes
  have hr := B.returns
  have hts := atoms_spec (ws := wsX4_undo) B.pre
  have hown : s.vm.findClass RX4 = some m.cls := findClass_of_methodNamed B.named
  have hlocks := B.notSynchronized
  have hinX4 : ∀ w ∈ u_ws RX4 TX4 12, w ∈ wsX4_undo := by decide +kernel
  subst hsz
  have hS : va_S (cA 7 ad s.heap.size) s.heap s.heap [] := va_S.rf
  have hD : ∀ I R, va_D (cA 7 ad s.heap.size) (mw T ad I R) := fun I R => mw_D hAD (fun k hk => cA_in hk)
  have hl := lv_entry ([.ref (ad 0)]) (n := 2) (Nat.le_of_ble_eq_true rfl)
  rw [lg_entry_eq]
  generalize (lg_sl ([.ref (ad 0)]) ++ List.replicate (2 - (lg_sl ([.ref (ad 0)])).length) Slot.unset).toArray = ls at hl ⊢
  have hl : lv_has ls 2 [(0, .ref (ad 0))] := hl
  refine lv_aload_n hx hb dX4_undo_0 rfl (lv_at hl 0 rfl) ?_
  refine lv_aload_n hx hb dX4_undo_1 rfl (lv_at hl 0 rfl) ?_
  refine va_get (D := D) (ci := 4) (v := .int (I 1)) (C := RX4) (T := TX4) (N := 12) hx hb hts hinX4 hown hK hP 0 mw_0 rfl 3 (by decide) (hts (.fieldLink RX4 48 "SquareGearsModel" "saves" "I") (by decide +kernel)) (fun _ h9 => h9) rfl dX4_undo_2 ?_
  refine cx_top (show (I 1) = 0 from hI1) ?_
  refine lv_if_ne (tgt := 12) hx hb dX4_undo_5 (by decide) (fun c_5 => absurd c_5 (by decide)) (fun c_5 => ?_)
  refine lv_iconst (v := 1) hx hb dX4_undo_8 (by decide) ?_
  refine lv_goto (tgt := 13) hx hb dX4_undo_9 (by decide) ?_
  refine cx_put (D := D) (ci := 4) (v := 1) (ty := .int) (C := RX4) (T := TX4) (N := 12) hx hb hts hinX4 tyX4 tyX4_ok nmX4 hown hK hP (hD _ _) hS 0 mw_0 rfl 0 (by decide) (hts (.fieldLink RX4 29 "SquareGearsModel" "thrown" "I") (by decide +kernel)) (fun _ h9 => h9) rfl (by decide +kernel) rfl rfl (Nat.le_of_ble_eq_true rfl) mw_I0 dX4_undo_13 (fun H locs hP hS => ?_)
  refine lv_aload_n hx hb dX4_undo_16 rfl (lv_at hl 0 rfl) ?_
  refine va_get (D := D) (ci := 4) (v := .int 1) (C := RX4) (T := TX4) (N := 12) hx hb hts hinX4 hown hK hP 0 mw_0 rfl 0 (by decide) (hts (.fieldLink RX4 29 "SquareGearsModel" "thrown" "I") (by decide +kernel)) (fun _ h9 => h9) rfl dX4_undo_17 ?_
  refine lv_if_le (tgt := 25) hx hb dX4_undo_20 (by decide) (fun c_20 => absurd c_20 (by decide)) (fun c_20 => ?_)
  refine lv_iconst (v := 0) hx hb dX4_undo_23 (by decide) ?_
  exact W.iret (v := 0) hx hb hr (fun t ht hW => ⟨⟨0, (), rfl, ⟨rfl, trivial⟩, by show va_P _ _ _ _; rw [ht]; exact hP⟩, hS.F ht⟩) hS.2.2 dX4_undo_24
set_option maxHeartbeats 4000000 in
set_option maxRecDepth 100000 in
theorem c_X4_keep_e1 (l : Launch) (D : va_G) (T : Nat → ClassId) (ad : Nat → Nat) (I : Nat → Int32) (R : Nat → Nat → Int32) (sz : Nat) (x : Int32) (hAD : AD 7 ad) (h1 : outI x 0 1 = 1) : Met l yX4_keep wsX4_keep ({ frames := 1, cells := 0, slots := 0, locals := 22 }) (va_Pc [.ref (ad 0), .int x] (MB D T ad I R sz)) (va_Qi (fun r (u9 : Unit) => r = 0 ∧ True) (fun (u9 : Unit) t => va_P D vwCl (mw T ad (upd I 0 1) R) t.heap) (cA 7 ad sz)) 0 0 (cA 7 ad sz) := by
  refine Met.ofW (cc := cX4_keep) (maxL := 3) (ret := (some .int)) (by decide) rfl ?_
  intro p e s m args_ below meth c s₁ B hml hv
  obtain ⟨rfl, hsz, hP, hK⟩ := hv
  have hx := B.exec
  have hb := B.bytes
  have hr := B.returns
  have hts := atoms_spec (ws := wsX4_keep) B.pre
  have hown : s.vm.findClass RX4 = some m.cls := findClass_of_methodNamed B.named
  have hlocks := B.notSynchronized
  have hinX4 : ∀ w ∈ u_ws RX4 TX4 12, w ∈ wsX4_keep := by decide +kernel
  subst hsz
  have hS : va_S (cA 7 ad s.heap.size) s.heap s.heap [] := va_S.rf
  have hD : ∀ I R, va_D (cA 7 ad s.heap.size) (mw T ad I R) := fun I R => mw_D hAD (fun k hk => cA_in hk)
  have hl := lv_entry ([.ref (ad 0), .int x]) (n := 3) (Nat.le_of_ble_eq_true rfl)
  rw [lg_entry_eq]
  generalize (lg_sl ([.ref (ad 0), .int x]) ++ List.replicate (3 - (lg_sl ([.ref (ad 0), .int x])).length) Slot.unset).toArray = ls at hl ⊢
  have hl : lv_has ls 3 [(0, .ref (ad 0)), (1, .int x)] := hl
  refine lv_aload_n hx hb dX4_keep_0 rfl (lv_at hl 0 rfl) ?_
  refine lv_iload_n hx hb dX4_keep_1 rfl (lv_at hl 1 rfl) ?_
  refine lv_iconst (v := 0) hx hb dX4_keep_2 (by decide) ?_
  refine lv_iconst (v := 1) hx hb dX4_keep_3 (by decide) ?_
  refine cx_ri (va_runS (As := [.int x, .int 0, .int 1]) (rest := [.ref (ad 0)]) ⟨hx, hb, hml, hown, hts⟩ (c_X4_in l  x 0 1) (va_cwS 3 hts gX4_keep_X4_in rfl rfl rfl (by decide +kernel) ⟨Nat.le_of_ble_eq_true rfl, Nat.le_of_ble_eq_true rfl⟩) ⟨pc_blind, (fun U hU hW => ⟨rfl, trivial⟩)⟩ rfl rfl hl.1 rfl (lv_room (Nat.le_of_ble_eq_true rfl)) dX4_keep_4 ⟨Nat.le_of_ble_eq_true rfl, Nat.le_of_ble_eq_true rfl⟩) hS hP (fun H locs hP hS => ?_)
  refine cx_top (show (inI x 0 1) = 0 from in_of1 h1) ?_
  refine lv_if_eq (tgt := 14) hx hb dX4_keep_7 (by decide) (fun c_7 => ?_) (fun c_7 => absurd c_7 (by decide))
  refine lv_iconst (v := 1) hx hb dX4_keep_14 (by decide) ?_
  refine cx_put (D := D) (ci := 4) (v := 1) (ty := .int) (C := RX4) (T := TX4) (N := 12) hx hb hts hinX4 tyX4 tyX4_ok nmX4 hown hK hP (hD _ _) hS 0 mw_0 rfl 0 (by decide) (hts (.fieldLink RX4 29 "SquareGearsModel" "thrown" "I") (by decide +kernel)) (fun _ h9 => h9) rfl (by decide +kernel) rfl rfl (Nat.le_of_ble_eq_true rfl) mw_I0 dX4_keep_15 (fun H locs hP hS => ?_)
  refine lv_aload_n hx hb dX4_keep_18 rfl (lv_at hl 0 rfl) ?_
  refine va_get (D := D) (ci := 4) (v := .int 1) (C := RX4) (T := TX4) (N := 12) hx hb hts hinX4 hown hK hP 0 mw_0 rfl 0 (by decide) (hts (.fieldLink RX4 29 "SquareGearsModel" "thrown" "I") (by decide +kernel)) (fun _ h9 => h9) rfl dX4_keep_19 ?_
  refine lv_if_le (tgt := 27) hx hb dX4_keep_22 (by decide) (fun c_22 => absurd c_22 (by decide)) (fun c_22 => ?_)
  refine lv_iconst (v := 0) hx hb dX4_keep_25 (by decide) ?_
  exact W.iret (v := 0) hx hb hr (fun t ht hW => ⟨⟨0, (), rfl, ⟨rfl, trivial⟩, by show va_P _ _ _ _; rw [ht]; exact hP⟩, hS.F ht⟩) hS.2.2 dX4_keep_26
set_option maxHeartbeats 4000000 in
set_option maxRecDepth 100000 in
theorem c_X4_goBack_e1 (l : Launch) (D : va_G) (T : Nat → ClassId) (ad : Nat → Nat) (I : Nat → Int32) (R : Nat → Nat → Int32) (sz : Nat) (x : Int32) (hAD : AD 7 ad) (h1 : outI x 0 1 = 1) : Met l yX4_goBack wsX4_goBack ({ frames := 1, cells := 0, slots := 0, locals := 22 }) (va_Pc [.ref (ad 0), .int x] (MB D T ad I R sz)) (va_Qi (fun r (u9 : Unit) => r = 0 ∧ True) (fun (u9 : Unit) t => va_P D vwCl (mw T ad (upd I 0 1) R) t.heap) (cA 7 ad sz)) 0 0 (cA 7 ad sz) := by
  refine Met.ofW (cc := cX4_goBack) (maxL := 3) (ret := (some .int)) (by decide) rfl ?_
  intro p e s m args_ below meth c s₁ B hml hv
  obtain ⟨rfl, hsz, hP, hK⟩ := hv
  have hx := B.exec
  have hb := B.bytes
  have hr := B.returns
  have hts := atoms_spec (ws := wsX4_goBack) B.pre
  have hown : s.vm.findClass RX4 = some m.cls := findClass_of_methodNamed B.named
  have hlocks := B.notSynchronized
  have hinX4 : ∀ w ∈ u_ws RX4 TX4 12, w ∈ wsX4_goBack := by decide +kernel
  subst hsz
  have hS : va_S (cA 7 ad s.heap.size) s.heap s.heap [] := va_S.rf
  have hD : ∀ I R, va_D (cA 7 ad s.heap.size) (mw T ad I R) := fun I R => mw_D hAD (fun k hk => cA_in hk)
  have hl := lv_entry ([.ref (ad 0), .int x]) (n := 3) (Nat.le_of_ble_eq_true rfl)
  rw [lg_entry_eq]
  generalize (lg_sl ([.ref (ad 0), .int x]) ++ List.replicate (3 - (lg_sl ([.ref (ad 0), .int x])).length) Slot.unset).toArray = ls at hl ⊢
  have hl : lv_has ls 3 [(0, .ref (ad 0)), (1, .int x)] := hl
  refine lv_aload_n hx hb dX4_goBack_0 rfl (lv_at hl 0 rfl) ?_
  refine lv_iload_n hx hb dX4_goBack_1 rfl (lv_at hl 1 rfl) ?_
  refine lv_iconst (v := 0) hx hb dX4_goBack_2 (by decide) ?_
  refine lv_iconst (v := 1) hx hb dX4_goBack_3 (by decide) ?_
  refine cx_ri (va_runS (As := [.int x, .int 0, .int 1]) (rest := [.ref (ad 0)]) ⟨hx, hb, hml, hown, hts⟩ (c_X4_in l  x 0 1) (va_cwS 3 hts gX4_goBack_X4_in rfl rfl rfl (by decide +kernel) ⟨Nat.le_of_ble_eq_true rfl, Nat.le_of_ble_eq_true rfl⟩) ⟨pc_blind, (fun U hU hW => ⟨rfl, trivial⟩)⟩ rfl rfl hl.1 rfl (lv_room (Nat.le_of_ble_eq_true rfl)) dX4_goBack_4 ⟨Nat.le_of_ble_eq_true rfl, Nat.le_of_ble_eq_true rfl⟩) hS hP (fun H locs hP hS => ?_)
  refine cx_top (show (inI x 0 1) = 0 from in_of1 h1) ?_
  refine lv_if_ne (tgt := 14) hx hb dX4_goBack_7 (by decide) (fun c_7 => absurd c_7 (by decide)) (fun c_7 => ?_)
  refine lv_iconst (v := 1) hx hb dX4_goBack_10 (by decide) ?_
  refine lv_goto (tgt := 28) hx hb dX4_goBack_11 (by decide) ?_
  refine cx_put (D := D) (ci := 4) (v := 1) (ty := .int) (C := RX4) (T := TX4) (N := 12) hx hb hts hinX4 tyX4 tyX4_ok nmX4 hown hK hP (hD _ _) hS 0 mw_0 rfl 0 (by decide) (hts (.fieldLink RX4 29 "SquareGearsModel" "thrown" "I") (by decide +kernel)) (fun _ h9 => h9) rfl (by decide +kernel) rfl rfl (Nat.le_of_ble_eq_true rfl) mw_I0 dX4_goBack_28 (fun H locs hP hS => ?_)
  refine lv_aload_n hx hb dX4_goBack_31 rfl (lv_at hl 0 rfl) ?_
  refine va_get (D := D) (ci := 4) (v := .int 1) (C := RX4) (T := TX4) (N := 12) hx hb hts hinX4 hown hK hP 0 mw_0 rfl 0 (by decide) (hts (.fieldLink RX4 29 "SquareGearsModel" "thrown" "I") (by decide +kernel)) (fun _ h9 => h9) rfl dX4_goBack_32 ?_
  refine lv_if_le (tgt := 40) hx hb dX4_goBack_35 (by decide) (fun c_35 => absurd c_35 (by decide)) (fun c_35 => ?_)
  refine lv_iconst (v := 0) hx hb dX4_goBack_38 (by decide) ?_
  exact W.iret (v := 0) hx hb hr (fun t ht hW => ⟨⟨0, (), rfl, ⟨rfl, trivial⟩, by show va_P _ _ _ _; rw [ht]; exact hP⟩, hS.F ht⟩) hS.2.2 dX4_goBack_39
set_option maxHeartbeats 4000000 in
set_option maxRecDepth 100000 in
theorem c_X4_goBack_e2 (l : Launch) (D : va_G) (T : Nat → ClassId) (ad : Nat → Nat) (I : Nat → Int32) (R : Nat → Nat → Int32) (sz : Nat) (k : Nat) (hAD : AD 7 ad) (hk : k < 2) (hkp : R 3 k = 0) : Met l yX4_goBack wsX4_goBack ({ frames := 1, cells := 0, slots := 0, locals := 22 }) (va_Pc [.ref (ad 0), .int (nI k)] (MB D T ad I R sz)) (va_Qi (fun r (u9 : Unit) => r = 0 ∧ True) (fun (u9 : Unit) t => va_P D vwCl (mw T ad (upd I 0 2) R) t.heap) (cA 7 ad sz)) 0 0 (cA 7 ad sz) := by
  refine Met.ofW (cc := cX4_goBack) (maxL := 3) (ret := (some .int)) (by decide) rfl ?_
  intro p e s m args_ below meth c s₁ B hml hv
  obtain ⟨rfl, hsz, hP, hK⟩ := hv
  have hx := B.exec
  have hb := B.bytes
  have hr := B.returns
  have hts := atoms_spec (ws := wsX4_goBack) B.pre
  have hown : s.vm.findClass RX4 = some m.cls := findClass_of_methodNamed B.named
  have hlocks := B.notSynchronized
  have hinX4 : ∀ w ∈ u_ws RX4 TX4 12, w ∈ wsX4_goBack := by decide +kernel
  subst hsz
  have hS : va_S (cA 7 ad s.heap.size) s.heap s.heap [] := va_S.rf
  have hD : ∀ I R, va_D (cA 7 ad s.heap.size) (mw T ad I R) := fun I R => mw_D hAD (fun k hk => cA_in hk)
  have hl := lv_entry ([.ref (ad 0), .int (nI k)]) (n := 3) (Nat.le_of_ble_eq_true rfl)
  rw [lg_entry_eq]
  generalize (lg_sl ([.ref (ad 0), .int (nI k)]) ++ List.replicate (3 - (lg_sl ([.ref (ad 0), .int (nI k)])).length) Slot.unset).toArray = ls at hl ⊢
  have hl : lv_has ls 3 [(0, .ref (ad 0)), (1, .int (nI k))] := hl
  refine lv_aload_n hx hb dX4_goBack_0 rfl (lv_at hl 0 rfl) ?_
  refine lv_iload_n hx hb dX4_goBack_1 rfl (lv_at hl 1 rfl) ?_
  refine lv_iconst (v := 0) hx hb dX4_goBack_2 (by decide) ?_
  refine lv_iconst (v := 1) hx hb dX4_goBack_3 (by decide) ?_
  refine cx_ri (va_runS (As := [.int (nI k), .int 0, .int 1]) (rest := [.ref (ad 0)]) ⟨hx, hb, hml, hown, hts⟩ (c_X4_in l  (nI k) 0 1) (va_cwS 3 hts gX4_goBack_X4_in rfl rfl rfl (by decide +kernel) ⟨Nat.le_of_ble_eq_true rfl, Nat.le_of_ble_eq_true rfl⟩) ⟨pc_blind, (fun U hU hW => ⟨rfl, trivial⟩)⟩ rfl rfl hl.1 rfl (lv_room (Nat.le_of_ble_eq_true rfl)) dX4_goBack_4 ⟨Nat.le_of_ble_eq_true rfl, Nat.le_of_ble_eq_true rfl⟩) hS hP (fun H locs hP hS => ?_)
  refine cx_top (show (inI (nI k) 0 1) = 1 from in_of0 (out_k (n := 1) (by omega) (by decide))) ?_
  refine lv_if_ne (tgt := 14) hx hb dX4_goBack_7 (by decide) (fun c_7 => ?_) (fun c_7 => absurd c_7 (by decide))
  refine lv_aload_n hx hb dX4_goBack_14 rfl (lv_at hl 0 rfl) ?_
  refine va_get (D := D) (ci := 4) (v := .ref (ad 4)) (C := RX4) (T := TX4) (N := 12) hx hb hts hinX4 hown hK hP 0 mw_0 rfl 5 (by decide) (hts (.fieldLink RX4 19 "SquareGearsModel" "isKept" "[Z") (by decide +kernel)) (fun _ h9 => h9) rfl dX4_goBack_15 ?_
  refine lv_iload_n hx hb dX4_goBack_18 rfl (lv_at hl 1 rfl) ?_
  refine cx_zald (k := k) hx hb hK hP 4 2 mw_4 rfl (by omega) (by decide) dX4_goBack_19 ?_
  refine cx_top (show ((R 3) k) = 0 from hkp) ?_
  refine lv_if_eq (tgt := 27) hx hb dX4_goBack_20 (by decide) (fun c_20 => ?_) (fun c_20 => absurd c_20 (by decide))
  refine lv_iconst (v := 2) hx hb dX4_goBack_27 (by decide) ?_
  refine cx_put (D := D) (ci := 4) (v := 2) (ty := .int) (C := RX4) (T := TX4) (N := 12) hx hb hts hinX4 tyX4 tyX4_ok nmX4 hown hK hP (hD _ _) hS 0 mw_0 rfl 0 (by decide) (hts (.fieldLink RX4 29 "SquareGearsModel" "thrown" "I") (by decide +kernel)) (fun _ h9 => h9) rfl (by decide +kernel) rfl rfl (Nat.le_of_ble_eq_true rfl) mw_I0 dX4_goBack_28 (fun H locs hP hS => ?_)
  refine lv_aload_n hx hb dX4_goBack_31 rfl (lv_at hl 0 rfl) ?_
  refine va_get (D := D) (ci := 4) (v := .int 2) (C := RX4) (T := TX4) (N := 12) hx hb hts hinX4 hown hK hP 0 mw_0 rfl 0 (by decide) (hts (.fieldLink RX4 29 "SquareGearsModel" "thrown" "I") (by decide +kernel)) (fun _ h9 => h9) rfl dX4_goBack_32 ?_
  refine lv_if_le (tgt := 40) hx hb dX4_goBack_35 (by decide) (fun c_35 => absurd c_35 (by decide)) (fun c_35 => ?_)
  refine lv_iconst (v := 0) hx hb dX4_goBack_38 (by decide) ?_
  exact W.iret (v := 0) hx hb hr (fun t ht hW => ⟨⟨0, (), rfl, ⟨rfl, trivial⟩, by show va_P _ _ _ _; rw [ht]; exact hP⟩, hS.F ht⟩) hS.2.2 dX4_goBack_39
set_option maxHeartbeats 4000000 in
set_option maxRecDepth 100000 in
theorem c_X4_wheelOf_e1 (l : Launch) (D : va_G) (T : Nat → ClassId) (ad : Nat → Nat) (I : Nat → Int32) (R : Nat → Nat → Int32) (sz : Nat) (v : Int32) (x : Int32) (hAD : AD 7 ad) (h1 : outI v 0 7 = 1) : Met l yX4_wheelOf wsX4_wheelOf ({ frames := 2, cells := 0, slots := 0, locals := 42 }) (va_Pc [.ref (ad 0), .int v, .int x] (MB D T ad I R sz)) (va_Qi (fun r (u9 : Unit) => r = 0 ∧ True) (fun (u9 : Unit) t => va_P D vwCl (mw T ad (upd I 0 1) R) t.heap) (cA 7 ad sz)) 0 0 (cA 7 ad sz) := by
  refine Met.ofW (cc := cX4_wheelOf) (maxL := 3) (ret := (some .int)) (by decide) rfl ?_
  intro p e s m args_ below meth c s₁ B hml hv
  obtain ⟨rfl, hsz, hP, hK⟩ := hv
  have hx := B.exec
  have hb := B.bytes
  have hr := B.returns
  have hts := atoms_spec (ws := wsX4_wheelOf) B.pre
  have hown : s.vm.findClass RX4 = some m.cls := findClass_of_methodNamed B.named
  have hlocks := B.notSynchronized
  have hinX4 : ∀ w ∈ u_ws RX4 TX4 12, w ∈ wsX4_wheelOf := by decide +kernel
  subst hsz
  have hS : va_S (cA 7 ad s.heap.size) s.heap s.heap [] := va_S.rf
  have hD : ∀ I R, va_D (cA 7 ad s.heap.size) (mw T ad I R) := fun I R => mw_D hAD (fun k hk => cA_in hk)
  have hl := lv_entry ([.ref (ad 0), .int v, .int x]) (n := 3) (Nat.le_of_ble_eq_true rfl)
  rw [lg_entry_eq]
  generalize (lg_sl ([.ref (ad 0), .int v, .int x]) ++ List.replicate (3 - (lg_sl ([.ref (ad 0), .int v, .int x])).length) Slot.unset).toArray = ls at hl ⊢
  have hl : lv_has ls 3 [(0, .ref (ad 0)), (1, .int v), (2, .int x)] := hl
  refine lv_aload_n hx hb dX4_wheelOf_0 rfl (lv_at hl 0 rfl) ?_
  refine lv_iload_n hx hb dX4_wheelOf_1 rfl (lv_at hl 1 rfl) ?_
  refine cx_ri (va_runS (As := [.int v]) (rest := [.ref (ad 0)]) ⟨hx, hb, hml, hown, hts⟩ (c_X4_isOne l  v) (va_cwS 1 hts gX4_wheelOf_X4_isOne rfl rfl rfl (by decide +kernel) ⟨Nat.le_of_ble_eq_true rfl, Nat.le_of_ble_eq_true rfl⟩) ⟨pc_blind, (fun U hU hW => ⟨rfl, trivial⟩)⟩ rfl rfl hl.1 rfl (lv_room (Nat.le_of_ble_eq_true rfl)) dX4_wheelOf_2 ⟨Nat.le_of_ble_eq_true rfl, Nat.le_of_ble_eq_true rfl⟩) hS hP (fun H locs hP hS => ?_)
  refine cx_top (show (inI v 0 7) = 0 from in_of1 h1) ?_
  refine lv_if_ne (tgt := 12) hx hb dX4_wheelOf_5 (by decide) (fun c_5 => absurd c_5 (by decide)) (fun c_5 => ?_)
  refine lv_iconst (v := 1) hx hb dX4_wheelOf_8 (by decide) ?_
  refine lv_goto (tgt := 26) hx hb dX4_wheelOf_9 (by decide) ?_
  refine cx_put (D := D) (ci := 4) (v := 1) (ty := .int) (C := RX4) (T := TX4) (N := 12) hx hb hts hinX4 tyX4 tyX4_ok nmX4 hown hK hP (hD _ _) hS 0 mw_0 rfl 0 (by decide) (hts (.fieldLink RX4 29 "SquareGearsModel" "thrown" "I") (by decide +kernel)) (fun _ h9 => h9) rfl (by decide +kernel) rfl rfl (Nat.le_of_ble_eq_true rfl) mw_I0 dX4_wheelOf_26 (fun H locs hP hS => ?_)
  refine lv_aload_n hx hb dX4_wheelOf_29 rfl (lv_at hl 0 rfl) ?_
  refine va_get (D := D) (ci := 4) (v := .int 1) (C := RX4) (T := TX4) (N := 12) hx hb hts hinX4 hown hK hP 0 mw_0 rfl 0 (by decide) (hts (.fieldLink RX4 29 "SquareGearsModel" "thrown" "I") (by decide +kernel)) (fun _ h9 => h9) rfl dX4_wheelOf_30 ?_
  refine lv_if_le (tgt := 40) hx hb dX4_wheelOf_33 (by decide) (fun c_33 => absurd c_33 (by decide)) (fun c_33 => ?_)
  refine lv_iconst (v := 0) hx hb dX4_wheelOf_36 (by decide) ?_
  refine lv_goto (tgt := 46) hx hb dX4_wheelOf_37 (by decide) ?_
  exact W.iret (v := 0) hx hb hr (fun t ht hW => ⟨⟨0, (), rfl, ⟨rfl, trivial⟩, by show va_P _ _ _ _; rw [ht]; exact hP⟩, hS.F ht⟩) hS.2.2 dX4_wheelOf_46
set_option maxHeartbeats 4000000 in
set_option maxRecDepth 100000 in
theorem c_X4_wheelOf_e2 (l : Launch) (D : va_G) (T : Nat → ClassId) (ad : Nat → Nat) (I : Nat → Int32) (R : Nat → Nat → Int32) (sz : Nat) (k : Nat) (x : Int32) (hAD : AD 7 ad) (hk : k < 8) (h1 : outI x 0 3 = 1) : Met l yX4_wheelOf wsX4_wheelOf ({ frames := 2, cells := 0, slots := 0, locals := 42 }) (va_Pc [.ref (ad 0), .int (nI k), .int x] (MB D T ad I R sz)) (va_Qi (fun r (u9 : Unit) => r = 0 ∧ True) (fun (u9 : Unit) t => va_P D vwCl (mw T ad (upd I 0 2) R) t.heap) (cA 7 ad sz)) 0 0 (cA 7 ad sz) := by
  refine Met.ofW (cc := cX4_wheelOf) (maxL := 3) (ret := (some .int)) (by decide) rfl ?_
  intro p e s m args_ below meth c s₁ B hml hv
  obtain ⟨rfl, hsz, hP, hK⟩ := hv
  have hx := B.exec
  have hb := B.bytes
  have hr := B.returns
  have hts := atoms_spec (ws := wsX4_wheelOf) B.pre
  have hown : s.vm.findClass RX4 = some m.cls := findClass_of_methodNamed B.named
  have hlocks := B.notSynchronized
  have hinX4 : ∀ w ∈ u_ws RX4 TX4 12, w ∈ wsX4_wheelOf := by decide +kernel
  subst hsz
  have hS : va_S (cA 7 ad s.heap.size) s.heap s.heap [] := va_S.rf
  have hD : ∀ I R, va_D (cA 7 ad s.heap.size) (mw T ad I R) := fun I R => mw_D hAD (fun k hk => cA_in hk)
  have hl := lv_entry ([.ref (ad 0), .int (nI k), .int x]) (n := 3) (Nat.le_of_ble_eq_true rfl)
  rw [lg_entry_eq]
  generalize (lg_sl ([.ref (ad 0), .int (nI k), .int x]) ++ List.replicate (3 - (lg_sl ([.ref (ad 0), .int (nI k), .int x])).length) Slot.unset).toArray = ls at hl ⊢
  have hl : lv_has ls 3 [(0, .ref (ad 0)), (1, .int (nI k)), (2, .int x)] := hl
  refine lv_aload_n hx hb dX4_wheelOf_0 rfl (lv_at hl 0 rfl) ?_
  refine lv_iload_n hx hb dX4_wheelOf_1 rfl (lv_at hl 1 rfl) ?_
  refine cx_ri (va_runS (As := [.int (nI k)]) (rest := [.ref (ad 0)]) ⟨hx, hb, hml, hown, hts⟩ (c_X4_isOne l  (nI k)) (va_cwS 1 hts gX4_wheelOf_X4_isOne rfl rfl rfl (by decide +kernel) ⟨Nat.le_of_ble_eq_true rfl, Nat.le_of_ble_eq_true rfl⟩) ⟨pc_blind, (fun U hU hW => ⟨rfl, trivial⟩)⟩ rfl rfl hl.1 rfl (lv_room (Nat.le_of_ble_eq_true rfl)) dX4_wheelOf_2 ⟨Nat.le_of_ble_eq_true rfl, Nat.le_of_ble_eq_true rfl⟩) hS hP (fun H locs hP hS => ?_)
  refine cx_top (show (inI (nI k) 0 7) = 1 from in_of0 (out_8 hk)) ?_
  refine lv_if_ne (tgt := 12) hx hb dX4_wheelOf_5 (by decide) (fun c_5 => ?_) (fun c_5 => absurd c_5 (by decide))
  refine lv_iload_n hx hb dX4_wheelOf_12 rfl (lv_at hl 2 rfl) ?_
  refine lv_iconst (v := 0) hx hb dX4_wheelOf_13 (by decide) ?_
  refine lv_iconst (v := 3) hx hb dX4_wheelOf_14 (by decide) ?_
  refine cx_ri (va_runS (As := [.int x, .int 0, .int 3]) (rest := [.ref (ad 0)]) ⟨hx, hb, hml, hown, hts⟩ (c_X4_in l  x 0 3) (va_cwS 3 hts gX4_wheelOf_X4_in rfl rfl rfl (by decide +kernel) ⟨Nat.le_of_ble_eq_true rfl, Nat.le_of_ble_eq_true rfl⟩) ⟨pc_blind, (fun U hU hW => ⟨rfl, trivial⟩)⟩ rfl rfl hl.1 rfl (lv_room (Nat.le_of_ble_eq_true rfl)) dX4_wheelOf_15 ⟨Nat.le_of_ble_eq_true rfl, Nat.le_of_ble_eq_true rfl⟩) hS hP (fun H locs hP hS => ?_)
  refine cx_top (show (inI x 0 3) = 0 from in_of1 h1) ?_
  refine lv_if_eq (tgt := 25) hx hb dX4_wheelOf_18 (by decide) (fun c_18 => ?_) (fun c_18 => absurd c_18 (by decide))
  refine lv_iconst (v := 2) hx hb dX4_wheelOf_25 (by decide) ?_
  refine cx_put (D := D) (ci := 4) (v := 2) (ty := .int) (C := RX4) (T := TX4) (N := 12) hx hb hts hinX4 tyX4 tyX4_ok nmX4 hown hK hP (hD _ _) hS 0 mw_0 rfl 0 (by decide) (hts (.fieldLink RX4 29 "SquareGearsModel" "thrown" "I") (by decide +kernel)) (fun _ h9 => h9) rfl (by decide +kernel) rfl rfl (Nat.le_of_ble_eq_true rfl) mw_I0 dX4_wheelOf_26 (fun H locs hP hS => ?_)
  refine lv_aload_n hx hb dX4_wheelOf_29 rfl (lv_at hl 0 rfl) ?_
  refine va_get (D := D) (ci := 4) (v := .int 2) (C := RX4) (T := TX4) (N := 12) hx hb hts hinX4 hown hK hP 0 mw_0 rfl 0 (by decide) (hts (.fieldLink RX4 29 "SquareGearsModel" "thrown" "I") (by decide +kernel)) (fun _ h9 => h9) rfl dX4_wheelOf_30 ?_
  refine lv_if_le (tgt := 40) hx hb dX4_wheelOf_33 (by decide) (fun c_33 => absurd c_33 (by decide)) (fun c_33 => ?_)
  refine lv_iconst (v := 0) hx hb dX4_wheelOf_36 (by decide) ?_
  refine lv_goto (tgt := 46) hx hb dX4_wheelOf_37 (by decide) ?_
  exact W.iret (v := 0) hx hb hr (fun t ht hW => ⟨⟨0, (), rfl, ⟨rfl, trivial⟩, by show va_P _ _ _ _; rw [ht]; exact hP⟩, hS.F ht⟩) hS.2.2 dX4_wheelOf_46
set_option maxHeartbeats 4000000 in
set_option maxRecDepth 100000 in
theorem c_X4_trace_e1 (l : Launch) (D : va_G) (T : Nat → ClassId) (ad : Nat → Nat) (I : Nat → Int32) (R : Nat → Nat → Int32) (sz : Nat) (v : Int32) (x : Int32) (hAD : AD 7 ad) (h1 : outI v 0 7 = 1) : Met l yX4_trace wsX4_trace ({ frames := 2, cells := 0, slots := 0, locals := 42 }) (va_Pc [.ref (ad 0), .int v, .int x] (MB D T ad I R sz)) (va_Qi (fun r (u9 : Unit) => r = 0 ∧ True) (fun (u9 : Unit) t => va_P D vwCl (mw T ad (upd I 0 1) R) t.heap) (cA 7 ad sz)) 0 0 (cA 7 ad sz) := by
  refine Met.ofW (cc := cX4_trace) (maxL := 3) (ret := (some .int)) (by decide) rfl ?_
  intro p e s m args_ below meth c s₁ B hml hv
  obtain ⟨rfl, hsz, hP, hK⟩ := hv
  have hx := B.exec
  have hb := B.bytes
  have hr := B.returns
  have hts := atoms_spec (ws := wsX4_trace) B.pre
  have hown : s.vm.findClass RX4 = some m.cls := findClass_of_methodNamed B.named
  have hlocks := B.notSynchronized
  have hinX4 : ∀ w ∈ u_ws RX4 TX4 12, w ∈ wsX4_trace := by decide +kernel
  subst hsz
  have hS : va_S (cA 7 ad s.heap.size) s.heap s.heap [] := va_S.rf
  have hD : ∀ I R, va_D (cA 7 ad s.heap.size) (mw T ad I R) := fun I R => mw_D hAD (fun k hk => cA_in hk)
  have hl := lv_entry ([.ref (ad 0), .int v, .int x]) (n := 3) (Nat.le_of_ble_eq_true rfl)
  rw [lg_entry_eq]
  generalize (lg_sl ([.ref (ad 0), .int v, .int x]) ++ List.replicate (3 - (lg_sl ([.ref (ad 0), .int v, .int x])).length) Slot.unset).toArray = ls at hl ⊢
  have hl : lv_has ls 3 [(0, .ref (ad 0)), (1, .int v), (2, .int x)] := hl
  refine lv_aload_n hx hb dX4_trace_0 rfl (lv_at hl 0 rfl) ?_
  refine lv_iload_n hx hb dX4_trace_1 rfl (lv_at hl 1 rfl) ?_
  refine cx_ri (va_runS (As := [.int v]) (rest := [.ref (ad 0)]) ⟨hx, hb, hml, hown, hts⟩ (c_X4_isOne l  v) (va_cwS 1 hts gX4_trace_X4_isOne rfl rfl rfl (by decide +kernel) ⟨Nat.le_of_ble_eq_true rfl, Nat.le_of_ble_eq_true rfl⟩) ⟨pc_blind, (fun U hU hW => ⟨rfl, trivial⟩)⟩ rfl rfl hl.1 rfl (lv_room (Nat.le_of_ble_eq_true rfl)) dX4_trace_2 ⟨Nat.le_of_ble_eq_true rfl, Nat.le_of_ble_eq_true rfl⟩) hS hP (fun H locs hP hS => ?_)
  refine cx_top (show (inI v 0 7) = 0 from in_of1 h1) ?_
  refine lv_if_ne (tgt := 12) hx hb dX4_trace_5 (by decide) (fun c_5 => absurd c_5 (by decide)) (fun c_5 => ?_)
  refine lv_iconst (v := 1) hx hb dX4_trace_8 (by decide) ?_
  refine lv_goto (tgt := 26) hx hb dX4_trace_9 (by decide) ?_
  refine cx_put (D := D) (ci := 4) (v := 1) (ty := .int) (C := RX4) (T := TX4) (N := 12) hx hb hts hinX4 tyX4 tyX4_ok nmX4 hown hK hP (hD _ _) hS 0 mw_0 rfl 0 (by decide) (hts (.fieldLink RX4 29 "SquareGearsModel" "thrown" "I") (by decide +kernel)) (fun _ h9 => h9) rfl (by decide +kernel) rfl rfl (Nat.le_of_ble_eq_true rfl) mw_I0 dX4_trace_26 (fun H locs hP hS => ?_)
  refine lv_aload_n hx hb dX4_trace_29 rfl (lv_at hl 0 rfl) ?_
  refine va_get (D := D) (ci := 4) (v := .int 1) (C := RX4) (T := TX4) (N := 12) hx hb hts hinX4 hown hK hP 0 mw_0 rfl 0 (by decide) (hts (.fieldLink RX4 29 "SquareGearsModel" "thrown" "I") (by decide +kernel)) (fun _ h9 => h9) rfl dX4_trace_30 ?_
  refine lv_if_le (tgt := 40) hx hb dX4_trace_33 (by decide) (fun c_33 => absurd c_33 (by decide)) (fun c_33 => ?_)
  refine lv_iconst (v := 0) hx hb dX4_trace_36 (by decide) ?_
  refine lv_goto (tgt := 45) hx hb dX4_trace_37 (by decide) ?_
  exact W.iret (v := 0) hx hb hr (fun t ht hW => ⟨⟨0, (), rfl, ⟨rfl, trivial⟩, by show va_P _ _ _ _; rw [ht]; exact hP⟩, hS.F ht⟩) hS.2.2 dX4_trace_45
set_option maxHeartbeats 4000000 in
set_option maxRecDepth 100000 in
theorem c_X4_trace_e2 (l : Launch) (D : va_G) (T : Nat → ClassId) (ad : Nat → Nat) (I : Nat → Int32) (R : Nat → Nat → Int32) (sz : Nat) (k : Nat) (x : Int32) (hAD : AD 7 ad) (hk : k < 8) (h1 : outI x 0 1 = 1) : Met l yX4_trace wsX4_trace ({ frames := 2, cells := 0, slots := 0, locals := 42 }) (va_Pc [.ref (ad 0), .int (nI k), .int x] (MB D T ad I R sz)) (va_Qi (fun r (u9 : Unit) => r = 0 ∧ True) (fun (u9 : Unit) t => va_P D vwCl (mw T ad (upd I 0 2) R) t.heap) (cA 7 ad sz)) 0 0 (cA 7 ad sz) := by
  refine Met.ofW (cc := cX4_trace) (maxL := 3) (ret := (some .int)) (by decide) rfl ?_
  intro p e s m args_ below meth c s₁ B hml hv
  obtain ⟨rfl, hsz, hP, hK⟩ := hv
  have hx := B.exec
  have hb := B.bytes
  have hr := B.returns
  have hts := atoms_spec (ws := wsX4_trace) B.pre
  have hown : s.vm.findClass RX4 = some m.cls := findClass_of_methodNamed B.named
  have hlocks := B.notSynchronized
  have hinX4 : ∀ w ∈ u_ws RX4 TX4 12, w ∈ wsX4_trace := by decide +kernel
  subst hsz
  have hS : va_S (cA 7 ad s.heap.size) s.heap s.heap [] := va_S.rf
  have hD : ∀ I R, va_D (cA 7 ad s.heap.size) (mw T ad I R) := fun I R => mw_D hAD (fun k hk => cA_in hk)
  have hl := lv_entry ([.ref (ad 0), .int (nI k), .int x]) (n := 3) (Nat.le_of_ble_eq_true rfl)
  rw [lg_entry_eq]
  generalize (lg_sl ([.ref (ad 0), .int (nI k), .int x]) ++ List.replicate (3 - (lg_sl ([.ref (ad 0), .int (nI k), .int x])).length) Slot.unset).toArray = ls at hl ⊢
  have hl : lv_has ls 3 [(0, .ref (ad 0)), (1, .int (nI k)), (2, .int x)] := hl
  refine lv_aload_n hx hb dX4_trace_0 rfl (lv_at hl 0 rfl) ?_
  refine lv_iload_n hx hb dX4_trace_1 rfl (lv_at hl 1 rfl) ?_
  refine cx_ri (va_runS (As := [.int (nI k)]) (rest := [.ref (ad 0)]) ⟨hx, hb, hml, hown, hts⟩ (c_X4_isOne l  (nI k)) (va_cwS 1 hts gX4_trace_X4_isOne rfl rfl rfl (by decide +kernel) ⟨Nat.le_of_ble_eq_true rfl, Nat.le_of_ble_eq_true rfl⟩) ⟨pc_blind, (fun U hU hW => ⟨rfl, trivial⟩)⟩ rfl rfl hl.1 rfl (lv_room (Nat.le_of_ble_eq_true rfl)) dX4_trace_2 ⟨Nat.le_of_ble_eq_true rfl, Nat.le_of_ble_eq_true rfl⟩) hS hP (fun H locs hP hS => ?_)
  refine cx_top (show (inI (nI k) 0 7) = 1 from in_of0 (out_8 hk)) ?_
  refine lv_if_ne (tgt := 12) hx hb dX4_trace_5 (by decide) (fun c_5 => ?_) (fun c_5 => absurd c_5 (by decide))
  refine lv_iload_n hx hb dX4_trace_12 rfl (lv_at hl 2 rfl) ?_
  refine lv_iconst (v := 0) hx hb dX4_trace_13 (by decide) ?_
  refine lv_iconst (v := 1) hx hb dX4_trace_14 (by decide) ?_
  refine cx_ri (va_runS (As := [.int x, .int 0, .int 1]) (rest := [.ref (ad 0)]) ⟨hx, hb, hml, hown, hts⟩ (c_X4_in l  x 0 1) (va_cwS 3 hts gX4_trace_X4_in rfl rfl rfl (by decide +kernel) ⟨Nat.le_of_ble_eq_true rfl, Nat.le_of_ble_eq_true rfl⟩) ⟨pc_blind, (fun U hU hW => ⟨rfl, trivial⟩)⟩ rfl rfl hl.1 rfl (lv_room (Nat.le_of_ble_eq_true rfl)) dX4_trace_15 ⟨Nat.le_of_ble_eq_true rfl, Nat.le_of_ble_eq_true rfl⟩) hS hP (fun H locs hP hS => ?_)
  refine cx_top (show (inI x 0 1) = 0 from in_of1 h1) ?_
  refine lv_if_eq (tgt := 25) hx hb dX4_trace_18 (by decide) (fun c_18 => ?_) (fun c_18 => absurd c_18 (by decide))
  refine lv_iconst (v := 2) hx hb dX4_trace_25 (by decide) ?_
  refine cx_put (D := D) (ci := 4) (v := 2) (ty := .int) (C := RX4) (T := TX4) (N := 12) hx hb hts hinX4 tyX4 tyX4_ok nmX4 hown hK hP (hD _ _) hS 0 mw_0 rfl 0 (by decide) (hts (.fieldLink RX4 29 "SquareGearsModel" "thrown" "I") (by decide +kernel)) (fun _ h9 => h9) rfl (by decide +kernel) rfl rfl (Nat.le_of_ble_eq_true rfl) mw_I0 dX4_trace_26 (fun H locs hP hS => ?_)
  refine lv_aload_n hx hb dX4_trace_29 rfl (lv_at hl 0 rfl) ?_
  refine va_get (D := D) (ci := 4) (v := .int 2) (C := RX4) (T := TX4) (N := 12) hx hb hts hinX4 hown hK hP 0 mw_0 rfl 0 (by decide) (hts (.fieldLink RX4 29 "SquareGearsModel" "thrown" "I") (by decide +kernel)) (fun _ h9 => h9) rfl dX4_trace_30 ?_
  refine lv_if_le (tgt := 40) hx hb dX4_trace_33 (by decide) (fun c_33 => absurd c_33 (by decide)) (fun c_33 => ?_)
  refine lv_iconst (v := 0) hx hb dX4_trace_36 (by decide) ?_
  refine lv_goto (tgt := 45) hx hb dX4_trace_37 (by decide) ?_
  exact W.iret (v := 0) hx hb hr (fun t ht hW => ⟨⟨0, (), rfl, ⟨rfl, trivial⟩, by show va_P _ _ _ _; rw [ht]; exact hP⟩, hS.F ht⟩) hS.2.2 dX4_trace_45
set_option maxHeartbeats 4000000 in
set_option maxRecDepth 100000 in
theorem c_X4_pointOf_e1 (l : Launch) (D : va_G) (T : Nat → ClassId) (ad : Nat → Nat) (I : Nat → Int32) (R : Nat → Nat → Int32) (sz : Nat) (v : Int32) (x : Int32) (hAD : AD 7 ad) (h1 : outI v 0 7 = 1) : Met l yX4_pointOf wsX4_pointOf ({ frames := 2, cells := 0, slots := 0, locals := 42 }) (va_Pc [.ref (ad 0), .int v, .int x] (MB D T ad I R sz)) (va_Qi (fun r (u9 : Unit) => r = 0 ∧ True) (fun (u9 : Unit) t => va_P D vwCl (mw T ad (upd I 0 1) R) t.heap) (cA 7 ad sz)) 0 0 (cA 7 ad sz) := by
  refine Met.ofW (cc := cX4_pointOf) (maxL := 3) (ret := (some .int)) (by decide) rfl ?_
  intro p e s m args_ below meth c s₁ B hml hv
  obtain ⟨rfl, hsz, hP, hK⟩ := hv
  have hx := B.exec
  have hb := B.bytes
  have hr := B.returns
  have hts := atoms_spec (ws := wsX4_pointOf) B.pre
  have hown : s.vm.findClass RX4 = some m.cls := findClass_of_methodNamed B.named
  have hlocks := B.notSynchronized
  have hinX4 : ∀ w ∈ u_ws RX4 TX4 12, w ∈ wsX4_pointOf := by decide +kernel
  subst hsz
  have hS : va_S (cA 7 ad s.heap.size) s.heap s.heap [] := va_S.rf
  have hD : ∀ I R, va_D (cA 7 ad s.heap.size) (mw T ad I R) := fun I R => mw_D hAD (fun k hk => cA_in hk)
  have hl := lv_entry ([.ref (ad 0), .int v, .int x]) (n := 3) (Nat.le_of_ble_eq_true rfl)
  rw [lg_entry_eq]
  generalize (lg_sl ([.ref (ad 0), .int v, .int x]) ++ List.replicate (3 - (lg_sl ([.ref (ad 0), .int v, .int x])).length) Slot.unset).toArray = ls at hl ⊢
  have hl : lv_has ls 3 [(0, .ref (ad 0)), (1, .int v), (2, .int x)] := hl
  refine lv_aload_n hx hb dX4_pointOf_0 rfl (lv_at hl 0 rfl) ?_
  refine lv_iload_n hx hb dX4_pointOf_1 rfl (lv_at hl 1 rfl) ?_
  refine cx_ri (va_runS (As := [.int v]) (rest := [.ref (ad 0)]) ⟨hx, hb, hml, hown, hts⟩ (c_X4_isOne l  v) (va_cwS 1 hts gX4_pointOf_X4_isOne rfl rfl rfl (by decide +kernel) ⟨Nat.le_of_ble_eq_true rfl, Nat.le_of_ble_eq_true rfl⟩) ⟨pc_blind, (fun U hU hW => ⟨rfl, trivial⟩)⟩ rfl rfl hl.1 rfl (lv_room (Nat.le_of_ble_eq_true rfl)) dX4_pointOf_2 ⟨Nat.le_of_ble_eq_true rfl, Nat.le_of_ble_eq_true rfl⟩) hS hP (fun H locs hP hS => ?_)
  refine cx_top (show (inI v 0 7) = 0 from in_of1 h1) ?_
  refine lv_if_ne (tgt := 12) hx hb dX4_pointOf_5 (by decide) (fun c_5 => absurd c_5 (by decide)) (fun c_5 => ?_)
  refine lv_iconst (v := 1) hx hb dX4_pointOf_8 (by decide) ?_
  refine lv_goto (tgt := 26) hx hb dX4_pointOf_9 (by decide) ?_
  refine cx_put (D := D) (ci := 4) (v := 1) (ty := .int) (C := RX4) (T := TX4) (N := 12) hx hb hts hinX4 tyX4 tyX4_ok nmX4 hown hK hP (hD _ _) hS 0 mw_0 rfl 0 (by decide) (hts (.fieldLink RX4 29 "SquareGearsModel" "thrown" "I") (by decide +kernel)) (fun _ h9 => h9) rfl (by decide +kernel) rfl rfl (Nat.le_of_ble_eq_true rfl) mw_I0 dX4_pointOf_26 (fun H locs hP hS => ?_)
  refine lv_aload_n hx hb dX4_pointOf_29 rfl (lv_at hl 0 rfl) ?_
  refine va_get (D := D) (ci := 4) (v := .int 1) (C := RX4) (T := TX4) (N := 12) hx hb hts hinX4 hown hK hP 0 mw_0 rfl 0 (by decide) (hts (.fieldLink RX4 29 "SquareGearsModel" "thrown" "I") (by decide +kernel)) (fun _ h9 => h9) rfl dX4_pointOf_30 ?_
  refine lv_if_le (tgt := 40) hx hb dX4_pointOf_33 (by decide) (fun c_33 => absurd c_33 (by decide)) (fun c_33 => ?_)
  refine lv_iconst (v := 0) hx hb dX4_pointOf_36 (by decide) ?_
  refine lv_goto (tgt := 46) hx hb dX4_pointOf_37 (by decide) ?_
  exact W.iret (v := 0) hx hb hr (fun t ht hW => ⟨⟨0, (), rfl, ⟨rfl, trivial⟩, by show va_P _ _ _ _; rw [ht]; exact hP⟩, hS.F ht⟩) hS.2.2 dX4_pointOf_46
set_option maxHeartbeats 4000000 in
set_option maxRecDepth 100000 in
theorem c_X4_pointOf_e2 (l : Launch) (D : va_G) (T : Nat → ClassId) (ad : Nat → Nat) (I : Nat → Int32) (R : Nat → Nat → Int32) (sz : Nat) (k : Nat) (x : Int32) (hAD : AD 7 ad) (hk : k < 8) (h1 : outI x 0 2 = 1) : Met l yX4_pointOf wsX4_pointOf ({ frames := 2, cells := 0, slots := 0, locals := 42 }) (va_Pc [.ref (ad 0), .int (nI k), .int x] (MB D T ad I R sz)) (va_Qi (fun r (u9 : Unit) => r = 0 ∧ True) (fun (u9 : Unit) t => va_P D vwCl (mw T ad (upd I 0 2) R) t.heap) (cA 7 ad sz)) 0 0 (cA 7 ad sz) := by
  refine Met.ofW (cc := cX4_pointOf) (maxL := 3) (ret := (some .int)) (by decide) rfl ?_
  intro p e s m args_ below meth c s₁ B hml hv
  obtain ⟨rfl, hsz, hP, hK⟩ := hv
  have hx := B.exec
  have hb := B.bytes
  have hr := B.returns
  have hts := atoms_spec (ws := wsX4_pointOf) B.pre
  have hown : s.vm.findClass RX4 = some m.cls := findClass_of_methodNamed B.named
  have hlocks := B.notSynchronized
  have hinX4 : ∀ w ∈ u_ws RX4 TX4 12, w ∈ wsX4_pointOf := by decide +kernel
  subst hsz
  have hS : va_S (cA 7 ad s.heap.size) s.heap s.heap [] := va_S.rf
  have hD : ∀ I R, va_D (cA 7 ad s.heap.size) (mw T ad I R) := fun I R => mw_D hAD (fun k hk => cA_in hk)
  have hl := lv_entry ([.ref (ad 0), .int (nI k), .int x]) (n := 3) (Nat.le_of_ble_eq_true rfl)
  rw [lg_entry_eq]
  generalize (lg_sl ([.ref (ad 0), .int (nI k), .int x]) ++ List.replicate (3 - (lg_sl ([.ref (ad 0), .int (nI k), .int x])).length) Slot.unset).toArray = ls at hl ⊢
  have hl : lv_has ls 3 [(0, .ref (ad 0)), (1, .int (nI k)), (2, .int x)] := hl
  refine lv_aload_n hx hb dX4_pointOf_0 rfl (lv_at hl 0 rfl) ?_
  refine lv_iload_n hx hb dX4_pointOf_1 rfl (lv_at hl 1 rfl) ?_
  refine cx_ri (va_runS (As := [.int (nI k)]) (rest := [.ref (ad 0)]) ⟨hx, hb, hml, hown, hts⟩ (c_X4_isOne l  (nI k)) (va_cwS 1 hts gX4_pointOf_X4_isOne rfl rfl rfl (by decide +kernel) ⟨Nat.le_of_ble_eq_true rfl, Nat.le_of_ble_eq_true rfl⟩) ⟨pc_blind, (fun U hU hW => ⟨rfl, trivial⟩)⟩ rfl rfl hl.1 rfl (lv_room (Nat.le_of_ble_eq_true rfl)) dX4_pointOf_2 ⟨Nat.le_of_ble_eq_true rfl, Nat.le_of_ble_eq_true rfl⟩) hS hP (fun H locs hP hS => ?_)
  refine cx_top (show (inI (nI k) 0 7) = 1 from in_of0 (out_8 hk)) ?_
  refine lv_if_ne (tgt := 12) hx hb dX4_pointOf_5 (by decide) (fun c_5 => ?_) (fun c_5 => absurd c_5 (by decide))
  refine lv_iload_n hx hb dX4_pointOf_12 rfl (lv_at hl 2 rfl) ?_
  refine lv_iconst (v := 0) hx hb dX4_pointOf_13 (by decide) ?_
  refine lv_iconst (v := 2) hx hb dX4_pointOf_14 (by decide) ?_
  refine cx_ri (va_runS (As := [.int x, .int 0, .int 2]) (rest := [.ref (ad 0)]) ⟨hx, hb, hml, hown, hts⟩ (c_X4_in l  x 0 2) (va_cwS 3 hts gX4_pointOf_X4_in rfl rfl rfl (by decide +kernel) ⟨Nat.le_of_ble_eq_true rfl, Nat.le_of_ble_eq_true rfl⟩) ⟨pc_blind, (fun U hU hW => ⟨rfl, trivial⟩)⟩ rfl rfl hl.1 rfl (lv_room (Nat.le_of_ble_eq_true rfl)) dX4_pointOf_15 ⟨Nat.le_of_ble_eq_true rfl, Nat.le_of_ble_eq_true rfl⟩) hS hP (fun H locs hP hS => ?_)
  refine cx_top (show (inI x 0 2) = 0 from in_of1 h1) ?_
  refine lv_if_eq (tgt := 25) hx hb dX4_pointOf_18 (by decide) (fun c_18 => ?_) (fun c_18 => absurd c_18 (by decide))
  refine lv_iconst (v := 2) hx hb dX4_pointOf_25 (by decide) ?_
  refine cx_put (D := D) (ci := 4) (v := 2) (ty := .int) (C := RX4) (T := TX4) (N := 12) hx hb hts hinX4 tyX4 tyX4_ok nmX4 hown hK hP (hD _ _) hS 0 mw_0 rfl 0 (by decide) (hts (.fieldLink RX4 29 "SquareGearsModel" "thrown" "I") (by decide +kernel)) (fun _ h9 => h9) rfl (by decide +kernel) rfl rfl (Nat.le_of_ble_eq_true rfl) mw_I0 dX4_pointOf_26 (fun H locs hP hS => ?_)
  refine lv_aload_n hx hb dX4_pointOf_29 rfl (lv_at hl 0 rfl) ?_
  refine va_get (D := D) (ci := 4) (v := .int 2) (C := RX4) (T := TX4) (N := 12) hx hb hts hinX4 hown hK hP 0 mw_0 rfl 0 (by decide) (hts (.fieldLink RX4 29 "SquareGearsModel" "thrown" "I") (by decide +kernel)) (fun _ h9 => h9) rfl dX4_pointOf_30 ?_
  refine lv_if_le (tgt := 40) hx hb dX4_pointOf_33 (by decide) (fun c_33 => absurd c_33 (by decide)) (fun c_33 => ?_)
  refine lv_iconst (v := 0) hx hb dX4_pointOf_36 (by decide) ?_
  refine lv_goto (tgt := 46) hx hb dX4_pointOf_37 (by decide) ?_
  exact W.iret (v := 0) hx hb hr (fun t ht hW => ⟨⟨0, (), rfl, ⟨rfl, trivial⟩, by show va_P _ _ _ _; rw [ht]; exact hP⟩, hS.F ht⟩) hS.2.2 dX4_pointOf_46
set_option maxHeartbeats 4000000 in
set_option maxRecDepth 100000 in
theorem c_X4_count_e1 (l : Launch) (D : va_G) (T : Nat → ClassId) (ad : Nat → Nat) (I : Nat → Int32) (R : Nat → Nat → Int32) (sz : Nat) (x : Int32) (hAD : AD 7 ad) (h1 : outI x 0 8 = 1) : Met l yX4_count wsX4_count ({ frames := 1, cells := 0, slots := 0, locals := 22 }) (va_Pc [.ref (ad 0), .int x] (MB D T ad I R sz)) (va_Qi (fun r (u9 : Unit) => r = 0 ∧ True) (fun (u9 : Unit) t => va_P D vwCl (mw T ad (upd I 0 1) R) t.heap) (cA 7 ad sz)) 0 0 (cA 7 ad sz) := by
  refine Met.ofW (cc := cX4_count) (maxL := 2) (ret := (some .int)) (by decide) rfl ?_
  intro p e s m args_ below meth c s₁ B hml hv
  obtain ⟨rfl, hsz, hP, hK⟩ := hv
  have hx := B.exec
  have hb := B.bytes
  have hr := B.returns
  have hts := atoms_spec (ws := wsX4_count) B.pre
  have hown : s.vm.findClass RX4 = some m.cls := findClass_of_methodNamed B.named
  have hlocks := B.notSynchronized
  have hinX4 : ∀ w ∈ u_ws RX4 TX4 12, w ∈ wsX4_count := by decide +kernel
  subst hsz
  have hS : va_S (cA 7 ad s.heap.size) s.heap s.heap [] := va_S.rf
  have hD : ∀ I R, va_D (cA 7 ad s.heap.size) (mw T ad I R) := fun I R => mw_D hAD (fun k hk => cA_in hk)
  have hl := lv_entry ([.ref (ad 0), .int x]) (n := 2) (Nat.le_of_ble_eq_true rfl)
  rw [lg_entry_eq]
  generalize (lg_sl ([.ref (ad 0), .int x]) ++ List.replicate (2 - (lg_sl ([.ref (ad 0), .int x])).length) Slot.unset).toArray = ls at hl ⊢
  have hl : lv_has ls 2 [(0, .ref (ad 0)), (1, .int x)] := hl
  refine lv_aload_n hx hb dX4_count_0 rfl (lv_at hl 0 rfl) ?_
  refine lv_iload_n hx hb dX4_count_1 rfl (lv_at hl 1 rfl) ?_
  refine lv_iconst (v := 0) hx hb dX4_count_2 (by decide) ?_
  refine lv_bipush (v := 8) hx hb dX4_count_3 (by decide) ?_
  refine cx_ri (va_runS (As := [.int x, .int 0, .int 8]) (rest := [.ref (ad 0)]) ⟨hx, hb, hml, hown, hts⟩ (c_X4_in l  x 0 8) (va_cwS 3 hts gX4_count_X4_in rfl rfl rfl (by decide +kernel) ⟨Nat.le_of_ble_eq_true rfl, Nat.le_of_ble_eq_true rfl⟩) ⟨pc_blind, (fun U hU hW => ⟨rfl, trivial⟩)⟩ rfl rfl hl.1 rfl (lv_room (Nat.le_of_ble_eq_true rfl)) dX4_count_5 ⟨Nat.le_of_ble_eq_true rfl, Nat.le_of_ble_eq_true rfl⟩) hS hP (fun H locs hP hS => ?_)
  refine cx_top (show (inI x 0 8) = 0 from in_of1 h1) ?_
  refine lv_if_eq (tgt := 15) hx hb dX4_count_8 (by decide) (fun c_8 => ?_) (fun c_8 => absurd c_8 (by decide))
  refine lv_iconst (v := 1) hx hb dX4_count_15 (by decide) ?_
  refine cx_put (D := D) (ci := 4) (v := 1) (ty := .int) (C := RX4) (T := TX4) (N := 12) hx hb hts hinX4 tyX4 tyX4_ok nmX4 hown hK hP (hD _ _) hS 0 mw_0 rfl 0 (by decide) (hts (.fieldLink RX4 29 "SquareGearsModel" "thrown" "I") (by decide +kernel)) (fun _ h9 => h9) rfl (by decide +kernel) rfl rfl (Nat.le_of_ble_eq_true rfl) mw_I0 dX4_count_16 (fun H locs hP hS => ?_)
  refine lv_aload_n hx hb dX4_count_19 rfl (lv_at hl 0 rfl) ?_
  refine va_get (D := D) (ci := 4) (v := .int 1) (C := RX4) (T := TX4) (N := 12) hx hb hts hinX4 hown hK hP 0 mw_0 rfl 0 (by decide) (hts (.fieldLink RX4 29 "SquareGearsModel" "thrown" "I") (by decide +kernel)) (fun _ h9 => h9) rfl dX4_count_20 ?_
  refine lv_if_le (tgt := 30) hx hb dX4_count_23 (by decide) (fun c_23 => absurd c_23 (by decide)) (fun c_23 => ?_)
  refine lv_iconst (v := 0) hx hb dX4_count_26 (by decide) ?_
  refine lv_goto (tgt := 35) hx hb dX4_count_27 (by decide) ?_
  exact W.iret (v := 0) hx hb hr (fun t ht hW => ⟨⟨0, (), rfl, ⟨rfl, trivial⟩, by show va_P _ _ _ _; rw [ht]; exact hP⟩, hS.F ht⟩) hS.2.2 dX4_count_35
set_option maxHeartbeats 4000000 in
set_option maxRecDepth 100000 in
theorem c_X4_enough_e1 (l : Launch) (D : va_G) (T : Nat → ClassId) (ad : Nat → Nat) (I : Nat → Int32) (R : Nat → Nat → Int32) (sz : Nat) (x : Int32) (y : Int32) (hAD : AD 7 ad) (h1 : outI x 0 9999999 = 1) : Met l yX4_enough wsX4_enough ({ frames := 1, cells := 0, slots := 0, locals := 22 }) (va_Pc [.ref (ad 0), .int x, .int y] (MB D T ad I R sz)) (va_Qi (fun r (u9 : Unit) => r = 0 ∧ True) (fun (u9 : Unit) t => va_P D vwCl (mw T ad (upd I 0 1) R) t.heap) (cA 7 ad sz)) 0 0 (cA 7 ad sz) := by
  refine Met.ofW (cc := cX4_enough) (maxL := 3) (ret := (some .int)) (by decide) rfl ?_
  intro p e s m args_ below meth c s₁ B hml hv
  obtain ⟨rfl, hsz, hP, hK⟩ := hv
  have hx := B.exec
  have hb := B.bytes
  have hr := B.returns
  have hts := atoms_spec (ws := wsX4_enough) B.pre
  have hown : s.vm.findClass RX4 = some m.cls := findClass_of_methodNamed B.named
  have hlocks := B.notSynchronized
  have hinX4 : ∀ w ∈ u_ws RX4 TX4 12, w ∈ wsX4_enough := by decide +kernel
  subst hsz
  have hS : va_S (cA 7 ad s.heap.size) s.heap s.heap [] := va_S.rf
  have hD : ∀ I R, va_D (cA 7 ad s.heap.size) (mw T ad I R) := fun I R => mw_D hAD (fun k hk => cA_in hk)
  have hl := lv_entry ([.ref (ad 0), .int x, .int y]) (n := 3) (Nat.le_of_ble_eq_true rfl)
  rw [lg_entry_eq]
  generalize (lg_sl ([.ref (ad 0), .int x, .int y]) ++ List.replicate (3 - (lg_sl ([.ref (ad 0), .int x, .int y])).length) Slot.unset).toArray = ls at hl ⊢
  have hl : lv_has ls 3 [(0, .ref (ad 0)), (1, .int x), (2, .int y)] := hl
  refine lv_aload_n hx hb dX4_enough_0 rfl (lv_at hl 0 rfl) ?_
  refine lv_iload_n hx hb dX4_enough_1 rfl (lv_at hl 1 rfl) ?_
  refine lv_iconst (v := 0) hx hb dX4_enough_2 (by decide) ?_
  refine lv_ldc (v := 9999999) hx hb hown (hts (.constant RX4 129 (9999999)) (by decide +kernel)) dX4_enough_3 ?_
  refine cx_ri (va_runS (As := [.int x, .int 0, .int 9999999]) (rest := [.ref (ad 0)]) ⟨hx, hb, hml, hown, hts⟩ (c_X4_in l  x 0 9999999) (va_cwS 3 hts gX4_enough_X4_in rfl rfl rfl (by decide +kernel) ⟨Nat.le_of_ble_eq_true rfl, Nat.le_of_ble_eq_true rfl⟩) ⟨pc_blind, (fun U hU hW => ⟨rfl, trivial⟩)⟩ rfl rfl hl.1 rfl (lv_room (Nat.le_of_ble_eq_true rfl)) dX4_enough_5 ⟨Nat.le_of_ble_eq_true rfl, Nat.le_of_ble_eq_true rfl⟩) hS hP (fun H locs hP hS => ?_)
  refine cx_top (show (inI x 0 9999999) = 0 from in_of1 h1) ?_
  refine lv_if_eq (tgt := 24) hx hb dX4_enough_8 (by decide) (fun c_8 => ?_) (fun c_8 => absurd c_8 (by decide))
  refine lv_iconst (v := 1) hx hb dX4_enough_24 (by decide) ?_
  refine cx_put (D := D) (ci := 4) (v := 1) (ty := .int) (C := RX4) (T := TX4) (N := 12) hx hb hts hinX4 tyX4 tyX4_ok nmX4 hown hK hP (hD _ _) hS 0 mw_0 rfl 0 (by decide) (hts (.fieldLink RX4 29 "SquareGearsModel" "thrown" "I") (by decide +kernel)) (fun _ h9 => h9) rfl (by decide +kernel) rfl rfl (Nat.le_of_ble_eq_true rfl) mw_I0 dX4_enough_25 (fun H locs hP hS => ?_)
  refine lv_aload_n hx hb dX4_enough_28 rfl (lv_at hl 0 rfl) ?_
  refine va_get (D := D) (ci := 4) (v := .int 1) (C := RX4) (T := TX4) (N := 12) hx hb hts hinX4 hown hK hP 0 mw_0 rfl 0 (by decide) (hts (.fieldLink RX4 29 "SquareGearsModel" "thrown" "I") (by decide +kernel)) (fun _ h9 => h9) rfl dX4_enough_29 ?_
  refine lv_if_le (tgt := 39) hx hb dX4_enough_32 (by decide) (fun c_32 => absurd c_32 (by decide)) (fun c_32 => ?_)
  refine lv_iconst (v := 0) hx hb dX4_enough_35 (by decide) ?_
  refine lv_goto (tgt := 44) hx hb dX4_enough_36 (by decide) ?_
  exact W.iret (v := 0) hx hb hr (fun t ht hW => ⟨⟨0, (), rfl, ⟨rfl, trivial⟩, by show va_P _ _ _ _; rw [ht]; exact hP⟩, hS.F ht⟩) hS.2.2 dX4_enough_44
set_option maxHeartbeats 4000000 in
set_option maxRecDepth 100000 in
theorem c_X4_enough_e2 (l : Launch) (D : va_G) (T : Nat → ClassId) (ad : Nat → Nat) (I : Nat → Int32) (R : Nat → Nat → Int32) (sz : Nat) (x : Int32) (y : Int32) (hAD : AD 7 ad) (hx9 : outI x 0 9999999 = 0) (h1 : outI y 0 1 = 1) : Met l yX4_enough wsX4_enough ({ frames := 1, cells := 0, slots := 0, locals := 22 }) (va_Pc [.ref (ad 0), .int x, .int y] (MB D T ad I R sz)) (va_Qi (fun r (u9 : Unit) => r = 0 ∧ True) (fun (u9 : Unit) t => va_P D vwCl (mw T ad (upd I 0 1) R) t.heap) (cA 7 ad sz)) 0 0 (cA 7 ad sz) := by
  refine Met.ofW (cc := cX4_enough) (maxL := 3) (ret := (some .int)) (by decide) rfl ?_
  intro p e s m args_ below meth c s₁ B hml hv
  obtain ⟨rfl, hsz, hP, hK⟩ := hv
  have hx := B.exec
  have hb := B.bytes
  have hr := B.returns
  have hts := atoms_spec (ws := wsX4_enough) B.pre
  have hown : s.vm.findClass RX4 = some m.cls := findClass_of_methodNamed B.named
  have hlocks := B.notSynchronized
  have hinX4 : ∀ w ∈ u_ws RX4 TX4 12, w ∈ wsX4_enough := by decide +kernel
  subst hsz
  have hS : va_S (cA 7 ad s.heap.size) s.heap s.heap [] := va_S.rf
  have hD : ∀ I R, va_D (cA 7 ad s.heap.size) (mw T ad I R) := fun I R => mw_D hAD (fun k hk => cA_in hk)
  have hl := lv_entry ([.ref (ad 0), .int x, .int y]) (n := 3) (Nat.le_of_ble_eq_true rfl)
  rw [lg_entry_eq]
  generalize (lg_sl ([.ref (ad 0), .int x, .int y]) ++ List.replicate (3 - (lg_sl ([.ref (ad 0), .int x, .int y])).length) Slot.unset).toArray = ls at hl ⊢
  have hl : lv_has ls 3 [(0, .ref (ad 0)), (1, .int x), (2, .int y)] := hl
  refine lv_aload_n hx hb dX4_enough_0 rfl (lv_at hl 0 rfl) ?_
  refine lv_iload_n hx hb dX4_enough_1 rfl (lv_at hl 1 rfl) ?_
  refine lv_iconst (v := 0) hx hb dX4_enough_2 (by decide) ?_
  refine lv_ldc (v := 9999999) hx hb hown (hts (.constant RX4 129 (9999999)) (by decide +kernel)) dX4_enough_3 ?_
  refine cx_ri (va_runS (As := [.int x, .int 0, .int 9999999]) (rest := [.ref (ad 0)]) ⟨hx, hb, hml, hown, hts⟩ (c_X4_in l  x 0 9999999) (va_cwS 3 hts gX4_enough_X4_in rfl rfl rfl (by decide +kernel) ⟨Nat.le_of_ble_eq_true rfl, Nat.le_of_ble_eq_true rfl⟩) ⟨pc_blind, (fun U hU hW => ⟨rfl, trivial⟩)⟩ rfl rfl hl.1 rfl (lv_room (Nat.le_of_ble_eq_true rfl)) dX4_enough_5 ⟨Nat.le_of_ble_eq_true rfl, Nat.le_of_ble_eq_true rfl⟩) hS hP (fun H locs hP hS => ?_)
  refine cx_top (show (inI x 0 9999999) = 1 from in_of0 hx9) ?_
  refine lv_if_eq (tgt := 24) hx hb dX4_enough_8 (by decide) (fun c_8 => absurd c_8 (by decide)) (fun c_8 => ?_)
  refine lv_iload_n hx hb dX4_enough_11 rfl (lv_at hl 2 rfl) ?_
  refine lv_iconst (v := 0) hx hb dX4_enough_12 (by decide) ?_
  refine lv_iconst (v := 1) hx hb dX4_enough_13 (by decide) ?_
  refine cx_ri (va_runS (As := [.int y, .int 0, .int 1]) (rest := [.ref (ad 0)]) ⟨hx, hb, hml, hown, hts⟩ (c_X4_in l  y 0 1) (va_cwS 3 hts gX4_enough_X4_in rfl rfl rfl (by decide +kernel) ⟨Nat.le_of_ble_eq_true rfl, Nat.le_of_ble_eq_true rfl⟩) ⟨pc_blind, (fun U hU hW => ⟨rfl, trivial⟩)⟩ rfl rfl hl.1 rfl (lv_room (Nat.le_of_ble_eq_true rfl)) dX4_enough_14 ⟨Nat.le_of_ble_eq_true rfl, Nat.le_of_ble_eq_true rfl⟩) hS hP (fun H locs hP hS => ?_)
  refine cx_top (show (inI y 0 1) = 0 from in_of1 h1) ?_
  refine lv_if_eq (tgt := 24) hx hb dX4_enough_17 (by decide) (fun c_17 => ?_) (fun c_17 => absurd c_17 (by decide))
  refine lv_iconst (v := 1) hx hb dX4_enough_24 (by decide) ?_
  refine cx_put (D := D) (ci := 4) (v := 1) (ty := .int) (C := RX4) (T := TX4) (N := 12) hx hb hts hinX4 tyX4 tyX4_ok nmX4 hown hK hP (hD _ _) hS 0 mw_0 rfl 0 (by decide) (hts (.fieldLink RX4 29 "SquareGearsModel" "thrown" "I") (by decide +kernel)) (fun _ h9 => h9) rfl (by decide +kernel) rfl rfl (Nat.le_of_ble_eq_true rfl) mw_I0 dX4_enough_25 (fun H locs hP hS => ?_)
  refine lv_aload_n hx hb dX4_enough_28 rfl (lv_at hl 0 rfl) ?_
  refine va_get (D := D) (ci := 4) (v := .int 1) (C := RX4) (T := TX4) (N := 12) hx hb hts hinX4 hown hK hP 0 mw_0 rfl 0 (by decide) (hts (.fieldLink RX4 29 "SquareGearsModel" "thrown" "I") (by decide +kernel)) (fun _ h9 => h9) rfl dX4_enough_29 ?_
  refine lv_if_le (tgt := 39) hx hb dX4_enough_32 (by decide) (fun c_32 => absurd c_32 (by decide)) (fun c_32 => ?_)
  refine lv_iconst (v := 0) hx hb dX4_enough_35 (by decide) ?_
  refine lv_goto (tgt := 44) hx hb dX4_enough_36 (by decide) ?_
  exact W.iret (v := 0) hx hb hr (fun t ht hW => ⟨⟨0, (), rfl, ⟨rfl, trivial⟩, by show va_P _ _ _ _; rw [ht]; exact hP⟩, hS.F ht⟩) hS.2.2 dX4_enough_44
set_option maxHeartbeats 4000000 in
set_option maxRecDepth 100000 in
theorem c_X4_ifTurned_e1 (l : Launch) (D : va_G) (T : Nat → ClassId) (ad : Nat → Nat) (I : Nat → Int32) (R : Nat → Nat → Int32) (sz : Nat) (x : Int32) (v : Int32) (hAD : AD 7 ad) (h1 : outI v 0 7 = 1) : Met l yX4_ifTurned wsX4_ifTurned ({ frames := 2, cells := 0, slots := 0, locals := 42 }) (va_Pc [.ref (ad 0), .int x, .int v] (MB D T ad I R sz)) (va_Qi (fun r (u9 : Unit) => r = 0 ∧ True) (fun (u9 : Unit) t => va_P D vwCl (mw T ad (upd I 0 1) R) t.heap) (cA 7 ad sz)) 0 0 (cA 7 ad sz) := by
  refine Met.ofW (cc := cX4_ifTurned) (maxL := 3) (ret := (some .int)) (by decide) rfl ?_
  intro p e s m args_ below meth c s₁ B hml hv
  obtain ⟨rfl, hsz, hP, hK⟩ := hv
  have hx := B.exec
  have hb := B.bytes
  have hr := B.returns
  have hts := atoms_spec (ws := wsX4_ifTurned) B.pre
  have hown : s.vm.findClass RX4 = some m.cls := findClass_of_methodNamed B.named
  have hlocks := B.notSynchronized
  have hinX4 : ∀ w ∈ u_ws RX4 TX4 12, w ∈ wsX4_ifTurned := by decide +kernel
  subst hsz
  have hS : va_S (cA 7 ad s.heap.size) s.heap s.heap [] := va_S.rf
  have hD : ∀ I R, va_D (cA 7 ad s.heap.size) (mw T ad I R) := fun I R => mw_D hAD (fun k hk => cA_in hk)
  have hl := lv_entry ([.ref (ad 0), .int x, .int v]) (n := 3) (Nat.le_of_ble_eq_true rfl)
  rw [lg_entry_eq]
  generalize (lg_sl ([.ref (ad 0), .int x, .int v]) ++ List.replicate (3 - (lg_sl ([.ref (ad 0), .int x, .int v])).length) Slot.unset).toArray = ls at hl ⊢
  have hl : lv_has ls 3 [(0, .ref (ad 0)), (1, .int x), (2, .int v)] := hl
  refine lv_aload_n hx hb dX4_ifTurned_0 rfl (lv_at hl 0 rfl) ?_
  refine lv_iload_n hx hb dX4_ifTurned_1 rfl (lv_at hl 2 rfl) ?_
  refine cx_ri (va_runS (As := [.int v]) (rest := [.ref (ad 0)]) ⟨hx, hb, hml, hown, hts⟩ (c_X4_isOne l  v) (va_cwS 1 hts gX4_ifTurned_X4_isOne rfl rfl rfl (by decide +kernel) ⟨Nat.le_of_ble_eq_true rfl, Nat.le_of_ble_eq_true rfl⟩) ⟨pc_blind, (fun U hU hW => ⟨rfl, trivial⟩)⟩ rfl rfl hl.1 rfl (lv_room (Nat.le_of_ble_eq_true rfl)) dX4_ifTurned_2 ⟨Nat.le_of_ble_eq_true rfl, Nat.le_of_ble_eq_true rfl⟩) hS hP (fun H locs hP hS => ?_)
  refine cx_top (show (inI v 0 7) = 0 from in_of1 h1) ?_
  refine lv_if_ne (tgt := 12) hx hb dX4_ifTurned_5 (by decide) (fun c_5 => absurd c_5 (by decide)) (fun c_5 => ?_)
  refine lv_iconst (v := 1) hx hb dX4_ifTurned_8 (by decide) ?_
  refine lv_goto (tgt := 24) hx hb dX4_ifTurned_9 (by decide) ?_
  refine cx_put (D := D) (ci := 4) (v := 1) (ty := .int) (C := RX4) (T := TX4) (N := 12) hx hb hts hinX4 tyX4 tyX4_ok nmX4 hown hK hP (hD _ _) hS 0 mw_0 rfl 0 (by decide) (hts (.fieldLink RX4 29 "SquareGearsModel" "thrown" "I") (by decide +kernel)) (fun _ h9 => h9) rfl (by decide +kernel) rfl rfl (Nat.le_of_ble_eq_true rfl) mw_I0 dX4_ifTurned_24 (fun H locs hP hS => ?_)
  refine lv_aload_n hx hb dX4_ifTurned_27 rfl (lv_at hl 0 rfl) ?_
  refine va_get (D := D) (ci := 4) (v := .int 1) (C := RX4) (T := TX4) (N := 12) hx hb hts hinX4 hown hK hP 0 mw_0 rfl 0 (by decide) (hts (.fieldLink RX4 29 "SquareGearsModel" "thrown" "I") (by decide +kernel)) (fun _ h9 => h9) rfl dX4_ifTurned_28 ?_
  refine lv_if_le (tgt := 38) hx hb dX4_ifTurned_31 (by decide) (fun c_31 => absurd c_31 (by decide)) (fun c_31 => ?_)
  refine lv_iconst (v := 0) hx hb dX4_ifTurned_34 (by decide) ?_
  refine lv_goto (tgt := 45) hx hb dX4_ifTurned_35 (by decide) ?_
  exact W.iret (v := 0) hx hb hr (fun t ht hW => ⟨⟨0, (), rfl, ⟨rfl, trivial⟩, by show va_P _ _ _ _; rw [ht]; exact hP⟩, hS.F ht⟩) hS.2.2 dX4_ifTurned_45
set_option maxHeartbeats 4000000 in
set_option maxRecDepth 100000 in
theorem c_X4_ifTurned_e2 (l : Launch) (D : va_G) (T : Nat → ClassId) (ad : Nat → Nat) (I : Nat → Int32) (R : Nat → Nat → Int32) (sz : Nat) (x : Int32) (k : Nat) (hAD : AD 7 ad) (hk : k < 8) (h1 : outI x 0 7 = 1) : Met l yX4_ifTurned wsX4_ifTurned ({ frames := 2, cells := 0, slots := 0, locals := 42 }) (va_Pc [.ref (ad 0), .int x, .int (nI k)] (MB D T ad I R sz)) (va_Qi (fun r (u9 : Unit) => r = 0 ∧ True) (fun (u9 : Unit) t => va_P D vwCl (mw T ad (upd I 0 2) R) t.heap) (cA 7 ad sz)) 0 0 (cA 7 ad sz) := by
  refine Met.ofW (cc := cX4_ifTurned) (maxL := 3) (ret := (some .int)) (by decide) rfl ?_
  intro p e s m args_ below meth c s₁ B hml hv
  obtain ⟨rfl, hsz, hP, hK⟩ := hv
  have hx := B.exec
  have hb := B.bytes
  have hr := B.returns
  have hts := atoms_spec (ws := wsX4_ifTurned) B.pre
  have hown : s.vm.findClass RX4 = some m.cls := findClass_of_methodNamed B.named
  have hlocks := B.notSynchronized
  have hinX4 : ∀ w ∈ u_ws RX4 TX4 12, w ∈ wsX4_ifTurned := by decide +kernel
  subst hsz
  have hS : va_S (cA 7 ad s.heap.size) s.heap s.heap [] := va_S.rf
  have hD : ∀ I R, va_D (cA 7 ad s.heap.size) (mw T ad I R) := fun I R => mw_D hAD (fun k hk => cA_in hk)
  have hl := lv_entry ([.ref (ad 0), .int x, .int (nI k)]) (n := 3) (Nat.le_of_ble_eq_true rfl)
  rw [lg_entry_eq]
  generalize (lg_sl ([.ref (ad 0), .int x, .int (nI k)]) ++ List.replicate (3 - (lg_sl ([.ref (ad 0), .int x, .int (nI k)])).length) Slot.unset).toArray = ls at hl ⊢
  have hl : lv_has ls 3 [(0, .ref (ad 0)), (1, .int x), (2, .int (nI k))] := hl
  refine lv_aload_n hx hb dX4_ifTurned_0 rfl (lv_at hl 0 rfl) ?_
  refine lv_iload_n hx hb dX4_ifTurned_1 rfl (lv_at hl 2 rfl) ?_
  refine cx_ri (va_runS (As := [.int (nI k)]) (rest := [.ref (ad 0)]) ⟨hx, hb, hml, hown, hts⟩ (c_X4_isOne l  (nI k)) (va_cwS 1 hts gX4_ifTurned_X4_isOne rfl rfl rfl (by decide +kernel) ⟨Nat.le_of_ble_eq_true rfl, Nat.le_of_ble_eq_true rfl⟩) ⟨pc_blind, (fun U hU hW => ⟨rfl, trivial⟩)⟩ rfl rfl hl.1 rfl (lv_room (Nat.le_of_ble_eq_true rfl)) dX4_ifTurned_2 ⟨Nat.le_of_ble_eq_true rfl, Nat.le_of_ble_eq_true rfl⟩) hS hP (fun H locs hP hS => ?_)
  refine cx_top (show (inI (nI k) 0 7) = 1 from in_of0 (out_8 hk)) ?_
  refine lv_if_ne (tgt := 12) hx hb dX4_ifTurned_5 (by decide) (fun c_5 => ?_) (fun c_5 => absurd c_5 (by decide))
  refine lv_iload_n hx hb dX4_ifTurned_12 rfl (lv_at hl 1 rfl) ?_
  refine cx_ri (va_runS (As := [.int x]) (rest := [.ref (ad 0)]) ⟨hx, hb, hml, hown, hts⟩ (c_X4_isOne l  x) (va_cwS 1 hts gX4_ifTurned_X4_isOne rfl rfl rfl (by decide +kernel) ⟨Nat.le_of_ble_eq_true rfl, Nat.le_of_ble_eq_true rfl⟩) ⟨pc_blind, (fun U hU hW => ⟨rfl, trivial⟩)⟩ rfl rfl hl.1 rfl (lv_room (Nat.le_of_ble_eq_true rfl)) dX4_ifTurned_13 ⟨Nat.le_of_ble_eq_true rfl, Nat.le_of_ble_eq_true rfl⟩) hS hP (fun H locs hP hS => ?_)
  refine cx_top (show (inI x 0 7) = 0 from in_of1 h1) ?_
  refine lv_if_eq (tgt := 23) hx hb dX4_ifTurned_16 (by decide) (fun c_16 => ?_) (fun c_16 => absurd c_16 (by decide))
  refine lv_iconst (v := 2) hx hb dX4_ifTurned_23 (by decide) ?_
  refine cx_put (D := D) (ci := 4) (v := 2) (ty := .int) (C := RX4) (T := TX4) (N := 12) hx hb hts hinX4 tyX4 tyX4_ok nmX4 hown hK hP (hD _ _) hS 0 mw_0 rfl 0 (by decide) (hts (.fieldLink RX4 29 "SquareGearsModel" "thrown" "I") (by decide +kernel)) (fun _ h9 => h9) rfl (by decide +kernel) rfl rfl (Nat.le_of_ble_eq_true rfl) mw_I0 dX4_ifTurned_24 (fun H locs hP hS => ?_)
  refine lv_aload_n hx hb dX4_ifTurned_27 rfl (lv_at hl 0 rfl) ?_
  refine va_get (D := D) (ci := 4) (v := .int 2) (C := RX4) (T := TX4) (N := 12) hx hb hts hinX4 hown hK hP 0 mw_0 rfl 0 (by decide) (hts (.fieldLink RX4 29 "SquareGearsModel" "thrown" "I") (by decide +kernel)) (fun _ h9 => h9) rfl dX4_ifTurned_28 ?_
  refine lv_if_le (tgt := 38) hx hb dX4_ifTurned_31 (by decide) (fun c_31 => absurd c_31 (by decide)) (fun c_31 => ?_)
  refine lv_iconst (v := 0) hx hb dX4_ifTurned_34 (by decide) ?_
  refine lv_goto (tgt := 45) hx hb dX4_ifTurned_35 (by decide) ?_
  exact W.iret (v := 0) hx hb hr (fun t ht hW => ⟨⟨0, (), rfl, ⟨rfl, trivial⟩, by show va_P _ _ _ _; rw [ht]; exact hP⟩, hS.F ht⟩) hS.2.2 dX4_ifTurned_45

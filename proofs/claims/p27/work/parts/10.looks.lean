set_option maxHeartbeats 4000000 in
set_option maxRecDepth 100000 in
theorem c_X3_wheelOf (l : Launch) (D : va_G) (T : Nat → ClassId) (ad : Nat → Nat) (I : Nat → Int32) (R : Nat → Nat → Int32) (lm : Nat) (k : Nat) (w : Nat) (hm : lm < 256) (hI : I 4 = nI lm) (hk : k < 8) (hw : w < 4) : Met l yX3_wheelOf wsX3_wheelOf ({ frames := 4, cells := 0, slots := 0, locals := 86 }) (va_Pc [.ref (ad 0), .int (nI k), .int (nI w)] (CR D T ad I R)) (RqI (wnF (R 0) (R 1) lm k w)) 0 0 (fun _ => False) := by
  refine Met.ofW (cc := cX3_wheelOf) (maxL := 3) (ret := (some .int)) (by decide) rfl ?_
  intro p e s m args_ below meth c s₁ B hml hv
  obtain ⟨rfl, hP, hK, hN⟩ := hv
  have hx := B.exec
  have hb := B.bytes
  have hr := B.returns
  have hts := atoms_spec (ws := wsX3_wheelOf) B.pre
  have hown : s.vm.findClass RX3 = some m.cls := findClass_of_methodNamed B.named
  have hlocks := B.notSynchronized
  have hS : va_S (fun _ => False) s.heap s.heap [] := va_S.rf
  have hl := lv_entry ([.ref (ad 0), .int (nI k), .int (nI w)]) (n := 3) (Nat.le_of_ble_eq_true rfl)
  rw [lg_entry_eq]
  generalize (lg_sl ([.ref (ad 0), .int (nI k), .int (nI w)]) ++ List.replicate (3 - (lg_sl ([.ref (ad 0), .int (nI k), .int (nI w)])).length) Slot.unset).toArray = ls at hl ⊢
  have hl : lv_has ls 3 [(0, .ref (ad 0)), (1, .int (nI k)), (2, .int (nI w))] := hl
  refine lv_iload_n hx hb dX3_wheelOf_0 rfl (lv_at hl 1 rfl) ?_
  refine cx_ri (va_runS (As := [.int (nI k)]) (rest := []) ⟨hx, hb, hml, hown, hts⟩ (c_X3_isNoPlace l  (nI k)) (va_cwS 1 hts gX3_wheelOf_X3_isNoPlace rfl rfl rfl (by decide +kernel) ⟨Nat.le_of_ble_eq_true rfl, Nat.le_of_ble_eq_true rfl⟩) ⟨pc_blind, (fun U hU hW => ⟨rfl, trivial⟩)⟩ rfl rfl hl.1 rfl (lv_room (Nat.le_of_ble_eq_true rfl)) dX3_wheelOf_1 ⟨Nat.le_of_ble_eq_true rfl, Nat.le_of_ble_eq_true rfl⟩) hS hP (fun H locs hP hS => ?_)
  refine cx_top (show (outI (nI k) 0 7) = 0 from out_8 hk) ?_
  refine lv_if_eq (tgt := 17) hx hb dX3_wheelOf_4 (by decide) (fun c_4 => ?_) (fun c_4 => absurd c_4 (by decide))
  refine lv_iload_n hx hb dX3_wheelOf_17 rfl (lv_at hl 2 rfl) ?_
  refine lv_iconst (v := 0) hx hb dX3_wheelOf_18 (by decide) ?_
  refine lv_iconst (v := 3) hx hb dX3_wheelOf_19 (by decide) ?_
  refine cx_ri (va_runS (As := [.int (nI w), .int 0, .int 3]) (rest := []) ⟨hx, hb, hml, hown, hts⟩ (c_X3_isOutside l  (nI w) 0 3) (va_cwS 3 hts gX3_wheelOf_X3_isOutside rfl rfl rfl (by decide +kernel) ⟨Nat.le_of_ble_eq_true rfl, Nat.le_of_ble_eq_true rfl⟩) ⟨pc_blind, (fun U hU hW => ⟨rfl, trivial⟩)⟩ rfl rfl hl.1 rfl (lv_room (Nat.le_of_ble_eq_true rfl)) dX3_wheelOf_20 ⟨Nat.le_of_ble_eq_true rfl, Nat.le_of_ble_eq_true rfl⟩) hS hP (fun H locs hP hS => ?_)
  refine cx_top (show (outI (nI w) 0 3) = 0 from out_k (n := 3) (by omega) (by decide)) ?_
  refine lv_if_eq (tgt := 36) hx hb dX3_wheelOf_23 (by decide) (fun c_23 => ?_) (fun c_23 => absurd c_23 (by decide))
  refine lv_aload_n hx hb dX3_wheelOf_36 rfl (lv_at hl 0 rfl) ?_
  refine lv_iload_n hx hb dX3_wheelOf_37 rfl (lv_at hl 1 rfl) ?_
  refine lv_iload_n hx hb dX3_wheelOf_38 rfl (lv_at hl 2 rfl) ?_
  refine cx_ri (va_runV (As := [.int (nI k), .int (nI w)]) (rest := []) ⟨hx, hb, hml, hown, hts⟩ (c_X3_wheelNumber l D T ad I R lm k w (hm) (hI) (hk) (hw)) (cwV 2 hts gX3_wheelOf_X3_wheelNumber rfl rfl rfl (by decide +kernel) ⟨Nat.le_of_ble_eq_true rfl, Nat.le_of_ble_eq_true rfl⟩) ⟨CR.blind, va_recv hK hP (ci := 3) (q0 := 0) rfl cw_0, (CR.pre hP hK hN rfl)⟩ rfl rfl hl.1 rfl (lv_room (Nat.le_of_ble_eq_true rfl)) dX3_wheelOf_39 ⟨Nat.le_of_ble_eq_true rfl, Nat.le_of_ble_eq_true rfl⟩) hS hP (fun H locs hP hS => ?_)
  exact W.iret (v := (wnF ((R 0)) ((R 1)) lm k w)) hx hb hr (fun t ht hW => ⟨⟨(wnF ((R 0)) ((R 1)) lm k w), (), rfl, (rfl), trivial⟩, hS.F ht⟩) hS.2.2 dX3_wheelOf_42
set_option maxHeartbeats 4000000 in
set_option maxRecDepth 100000 in
theorem c_X3_pointOf (l : Launch) (D : va_G) (T : Nat → ClassId) (ad : Nat → Nat) (I : Nat → Int32) (R : Nat → Nat → Int32) (lm : Nat) (n : Nat) (w : Nat) (hm : lm < 256) (hI : I 4 = nI lm) (hn : n < 8) (hw : w < 3) : Met l yX3_pointOf wsX3_pointOf ({ frames := 5, cells := 0, slots := 0, locals := 108 }) (va_Pc [.ref (ad 0), .int (nI n), .int (nI w)] (CR D T ad I R)) (RqI (pnF (R 1) (dr (R 0) lm) n w)) 0 0 (fun _ => False) := by
  refine Met.ofW (cc := cX3_pointOf) (maxL := 3) (ret := (some .int)) (by decide) rfl ?_
  intro p e s m args_ below meth c s₁ B hml hv
  obtain ⟨rfl, hP, hK, hN⟩ := hv
  have hx := B.exec
  have hb := B.bytes
  have hr := B.returns
  have hts := atoms_spec (ws := wsX3_pointOf) B.pre
  have hown : s.vm.findClass RX3 = some m.cls := findClass_of_methodNamed B.named
  have hlocks := B.notSynchronized
  have hS : va_S (fun _ => False) s.heap s.heap [] := va_S.rf
  have hl := lv_entry ([.ref (ad 0), .int (nI n), .int (nI w)]) (n := 3) (Nat.le_of_ble_eq_true rfl)
  rw [lg_entry_eq]
  generalize (lg_sl ([.ref (ad 0), .int (nI n), .int (nI w)]) ++ List.replicate (3 - (lg_sl ([.ref (ad 0), .int (nI n), .int (nI w)])).length) Slot.unset).toArray = ls at hl ⊢
  have hl : lv_has ls 3 [(0, .ref (ad 0)), (1, .int (nI n)), (2, .int (nI w))] := hl
  refine lv_iload_n hx hb dX3_pointOf_0 rfl (lv_at hl 1 rfl) ?_
  refine cx_ri (va_runS (As := [.int (nI n)]) (rest := []) ⟨hx, hb, hml, hown, hts⟩ (c_X3_isNoPlace l  (nI n)) (va_cwS 1 hts gX3_pointOf_X3_isNoPlace rfl rfl rfl (by decide +kernel) ⟨Nat.le_of_ble_eq_true rfl, Nat.le_of_ble_eq_true rfl⟩) ⟨pc_blind, (fun U hU hW => ⟨rfl, trivial⟩)⟩ rfl rfl hl.1 rfl (lv_room (Nat.le_of_ble_eq_true rfl)) dX3_pointOf_1 ⟨Nat.le_of_ble_eq_true rfl, Nat.le_of_ble_eq_true rfl⟩) hS hP (fun H locs hP hS => ?_)
  refine cx_top (show (outI (nI n) 0 7) = 0 from out_8 hn) ?_
  refine lv_if_eq (tgt := 17) hx hb dX3_pointOf_4 (by decide) (fun c_4 => ?_) (fun c_4 => absurd c_4 (by decide))
  refine lv_iload_n hx hb dX3_pointOf_17 rfl (lv_at hl 2 rfl) ?_
  refine lv_iconst (v := 0) hx hb dX3_pointOf_18 (by decide) ?_
  refine lv_iconst (v := 2) hx hb dX3_pointOf_19 (by decide) ?_
  refine cx_ri (va_runS (As := [.int (nI w), .int 0, .int 2]) (rest := []) ⟨hx, hb, hml, hown, hts⟩ (c_X3_isOutside l  (nI w) 0 2) (va_cwS 3 hts gX3_pointOf_X3_isOutside rfl rfl rfl (by decide +kernel) ⟨Nat.le_of_ble_eq_true rfl, Nat.le_of_ble_eq_true rfl⟩) ⟨pc_blind, (fun U hU hW => ⟨rfl, trivial⟩)⟩ rfl rfl hl.1 rfl (lv_room (Nat.le_of_ble_eq_true rfl)) dX3_pointOf_20 ⟨Nat.le_of_ble_eq_true rfl, Nat.le_of_ble_eq_true rfl⟩) hS hP (fun H locs hP hS => ?_)
  refine cx_top (show (outI (nI w) 0 2) = 0 from out_k (n := 2) (by omega) (by decide)) ?_
  refine lv_if_eq (tgt := 36) hx hb dX3_pointOf_23 (by decide) (fun c_23 => ?_) (fun c_23 => absurd c_23 (by decide))
  refine lv_aload_n hx hb dX3_pointOf_36 rfl (lv_at hl 0 rfl) ?_
  refine lv_iload_n hx hb dX3_pointOf_37 rfl (lv_at hl 1 rfl) ?_
  refine lv_iload_n hx hb dX3_pointOf_38 rfl (lv_at hl 2 rfl) ?_
  refine cx_ri (va_runV (As := [.int (nI n), .int (nI w)]) (rest := []) ⟨hx, hb, hml, hown, hts⟩ (c_X3_pointNumber l D T ad I R lm n w (hm) (hI) (hn) (hw)) (cwV 2 hts gX3_pointOf_X3_pointNumber rfl rfl rfl (by decide +kernel) ⟨Nat.le_of_ble_eq_true rfl, Nat.le_of_ble_eq_true rfl⟩) ⟨CR.blind, va_recv hK hP (ci := 3) (q0 := 0) rfl cw_0, (CR.pre hP hK hN rfl)⟩ rfl rfl hl.1 rfl (lv_room (Nat.le_of_ble_eq_true rfl)) dX3_pointOf_39 ⟨Nat.le_of_ble_eq_true rfl, Nat.le_of_ble_eq_true rfl⟩) hS hP (fun H locs hP hS => ?_)
  exact W.iret (v := (pnF ((R 1)) (dr ((R 0)) lm) n w)) hx hb hr (fun t ht hW => ⟨⟨(pnF ((R 1)) (dr ((R 0)) lm) n w), (), rfl, (rfl), trivial⟩, hS.F ht⟩) hS.2.2 dX3_pointOf_42
set_option maxHeartbeats 4000000 in
set_option maxRecDepth 100000 in
theorem c_X3_count (l : Launch) (D : va_G) (T : Nat → ClassId) (ad : Nat → Nat) (I : Nat → Int32) (R : Nat → Nat → Int32) (lm : Nat) (w : Nat) (hm : lm < 256) (hI : I 4 = nI lm) (hw : w < 9) : Met l yX3_count wsX3_count ({ frames := 6, cells := 0, slots := 0, locals := 129 }) (va_Pc [.ref (ad 0), .int (nI w)] (CR D T ad I R)) (RqI (cnF (R 0) (R 1) lm (I 5) (I 2) w)) 0 0 (fun _ => False) := by
  refine Met.ofW (cc := cX3_count) (maxL := 2) (ret := (some .int)) (by decide) rfl ?_
  intro p e s m args_ below meth c s₁ B hml hv
  obtain ⟨rfl, hP, hK, hN⟩ := hv
  have hx := B.exec
  have hb := B.bytes
  have hr := B.returns
  have hts := atoms_spec (ws := wsX3_count) B.pre
  have hown : s.vm.findClass RX3 = some m.cls := findClass_of_methodNamed B.named
  have hlocks := B.notSynchronized
  have hS : va_S (fun _ => False) s.heap s.heap [] := va_S.rf
  have hl := lv_entry ([.ref (ad 0), .int (nI w)]) (n := 2) (Nat.le_of_ble_eq_true rfl)
  rw [lg_entry_eq]
  generalize (lg_sl ([.ref (ad 0), .int (nI w)]) ++ List.replicate (2 - (lg_sl ([.ref (ad 0), .int (nI w)])).length) Slot.unset).toArray = ls at hl ⊢
  have hl : lv_has ls 2 [(0, .ref (ad 0)), (1, .int (nI w))] := hl
  refine lv_iload_n hx hb dX3_count_0 rfl (lv_at hl 1 rfl) ?_
  refine lv_iconst (v := 0) hx hb dX3_count_1 (by decide) ?_
  refine lv_bipush (v := 8) hx hb dX3_count_2 (by decide) ?_
  refine cx_ri (va_runS (As := [.int (nI w), .int 0, .int 8]) (rest := []) ⟨hx, hb, hml, hown, hts⟩ (c_X3_isOutside l  (nI w) 0 8) (va_cwS 3 hts gX3_count_X3_isOutside rfl rfl rfl (by decide +kernel) ⟨Nat.le_of_ble_eq_true rfl, Nat.le_of_ble_eq_true rfl⟩) ⟨pc_blind, (fun U hU hW => ⟨rfl, trivial⟩)⟩ rfl rfl hl.1 rfl (lv_room (Nat.le_of_ble_eq_true rfl)) dX3_count_4 ⟨Nat.le_of_ble_eq_true rfl, Nat.le_of_ble_eq_true rfl⟩) hS hP (fun H locs hP hS => ?_)
  refine cx_top (show (outI (nI w) 0 8) = 0 from out_k (n := 8) (by omega) (by decide)) ?_
  refine lv_if_eq (tgt := 20) hx hb dX3_count_7 (by decide) (fun c_7 => ?_) (fun c_7 => absurd c_7 (by decide))
  refine lv_aload_n hx hb dX3_count_20 rfl (lv_at hl 0 rfl) ?_
  refine lv_iload_n hx hb dX3_count_21 rfl (lv_at hl 1 rfl) ?_
  refine cx_ri (va_runV (As := [.int (nI w)]) (rest := []) ⟨hx, hb, hml, hown, hts⟩ (c_X3_countNumber l D T ad I R lm w (hm) (hI) (hw)) (cwV 1 hts gX3_count_X3_countNumber rfl rfl rfl (by decide +kernel) ⟨Nat.le_of_ble_eq_true rfl, Nat.le_of_ble_eq_true rfl⟩) ⟨CR.blind, va_recv hK hP (ci := 3) (q0 := 0) rfl cw_0, (CR.pre hP hK hN rfl)⟩ rfl rfl hl.1 rfl (lv_room (Nat.le_of_ble_eq_true rfl)) dX3_count_22 ⟨Nat.le_of_ble_eq_true rfl, Nat.le_of_ble_eq_true rfl⟩) hS hP (fun H locs hP hS => ?_)
  exact W.iret (v := (cnF ((R 0)) ((R 1)) lm (I 5) (I 2) w)) hx hb hr (fun t ht hW => ⟨⟨(cnF ((R 0)) ((R 1)) lm (I 5) (I 2) w), (), rfl, (rfl), trivial⟩, hS.F ht⟩) hS.2.2 dX3_count_25
set_option maxHeartbeats 4000000 in
set_option maxRecDepth 100000 in
theorem c_X3_trace0 (l : Launch) (D : va_G) (T : Nat → ClassId) (ad : Nat → Nat) (I : Nat → Int32) (R : Nat → Nat → Int32) (lm : Nat) (n : Nat) (hm : lm < 256) (hI : I 4 = nI lm) (hn : n < 8) : Met l yX3_trace wsX3_trace ({ frames := 4, cells := 0, slots := 0, locals := 88 }) (va_Pc [.ref (ad 0), .int (nI n), .int 0] (CR D T ad I R)) (RqI (trS (dr (R 0) lm) n 8)) 0 0 (fun _ => False) := by
  refine Met.ofW (cc := cX3_trace) (maxL := 3) (ret := (some .int)) (by decide) rfl ?_
  intro p e s m args_ below meth c s₁ B hml hv
  obtain ⟨rfl, hP, hK, hN⟩ := hv
  have hx := B.exec
  have hb := B.bytes
  have hr := B.returns
  have hts := atoms_spec (ws := wsX3_trace) B.pre
  have hown : s.vm.findClass RX3 = some m.cls := findClass_of_methodNamed B.named
  have hlocks := B.notSynchronized
  have hS : va_S (fun _ => False) s.heap s.heap [] := va_S.rf
  have hl := lv_entry ([.ref (ad 0), .int (nI n), .int 0]) (n := 3) (Nat.le_of_ble_eq_true rfl)
  rw [lg_entry_eq]
  generalize (lg_sl ([.ref (ad 0), .int (nI n), .int 0]) ++ List.replicate (3 - (lg_sl ([.ref (ad 0), .int (nI n), .int 0])).length) Slot.unset).toArray = ls at hl ⊢
  have hl : lv_has ls 3 [(0, .ref (ad 0)), (1, .int (nI n)), (2, .int 0)] := hl
  refine lv_iload_n hx hb dX3_trace_0 rfl (lv_at hl 1 rfl) ?_
  refine cx_ri (va_runS (As := [.int (nI n)]) (rest := []) ⟨hx, hb, hml, hown, hts⟩ (c_X3_isNoPlace l  (nI n)) (va_cwS 1 hts gX3_trace_X3_isNoPlace rfl rfl rfl (by decide +kernel) ⟨Nat.le_of_ble_eq_true rfl, Nat.le_of_ble_eq_true rfl⟩) ⟨pc_blind, (fun U hU hW => ⟨rfl, trivial⟩)⟩ rfl rfl hl.1 rfl (lv_room (Nat.le_of_ble_eq_true rfl)) dX3_trace_1 ⟨Nat.le_of_ble_eq_true rfl, Nat.le_of_ble_eq_true rfl⟩) hS hP (fun H locs hP hS => ?_)
  refine cx_top (show (outI (nI n) 0 7) = 0 from out_8 hn) ?_
  refine lv_if_eq (tgt := 17) hx hb dX3_trace_4 (by decide) (fun c_4 => ?_) (fun c_4 => absurd c_4 (by decide))
  refine lv_iload_n hx hb dX3_trace_17 rfl (lv_at hl 2 rfl) ?_
  refine lv_iconst (v := 0) hx hb dX3_trace_18 (by decide) ?_
  refine lv_iconst (v := 1) hx hb dX3_trace_19 (by decide) ?_
  refine cx_ri (va_runS (As := [.int 0, .int 0, .int 1]) (rest := []) ⟨hx, hb, hml, hown, hts⟩ (c_X3_isOutside l  0 0 1) (va_cwS 3 hts gX3_trace_X3_isOutside rfl rfl rfl (by decide +kernel) ⟨Nat.le_of_ble_eq_true rfl, Nat.le_of_ble_eq_true rfl⟩) ⟨pc_blind, (fun U hU hW => ⟨rfl, trivial⟩)⟩ rfl rfl hl.1 rfl (lv_room (Nat.le_of_ble_eq_true rfl)) dX3_trace_20 ⟨Nat.le_of_ble_eq_true rfl, Nat.le_of_ble_eq_true rfl⟩) hS hP (fun H locs hP hS => ?_)
  refine cx_top (show (outI 0 0 1) = 0 from by decide) ?_
  refine lv_if_eq (tgt := 36) hx hb dX3_trace_23 (by decide) (fun c_23 => ?_) (fun c_23 => absurd c_23 (by decide))
  refine lv_aload_n hx hb dX3_trace_36 rfl (lv_at hl 0 rfl) ?_
  refine lv_iload_n hx hb dX3_trace_37 rfl (lv_at hl 1 rfl) ?_
  refine lv_iload_n hx hb dX3_trace_38 rfl (lv_at hl 2 rfl) ?_
  refine cx_ri (va_runV (As := [.int (nI n), .int 0]) (rest := []) ⟨hx, hb, hml, hown, hts⟩ (c_X3_traceNumber0 l D T ad I R lm n (hm) (hI) (hn)) (cwV 2 hts gX3_trace_X3_traceNumber rfl rfl rfl (by decide +kernel) ⟨Nat.le_of_ble_eq_true rfl, Nat.le_of_ble_eq_true rfl⟩) ⟨CR.blind, va_recv hK hP (ci := 3) (q0 := 0) rfl cw_0, (CR.pre hP hK hN rfl)⟩ rfl rfl hl.1 rfl (lv_room (Nat.le_of_ble_eq_true rfl)) dX3_trace_39 ⟨Nat.le_of_ble_eq_true rfl, Nat.le_of_ble_eq_true rfl⟩) hS hP (fun H locs hP hS => ?_)
  exact W.iret (v := (trS (dr ((R 0)) lm) n 8)) hx hb hr (fun t ht hW => ⟨⟨(trS (dr ((R 0)) lm) n 8), (), rfl, (rfl), trivial⟩, hS.F ht⟩) hS.2.2 dX3_trace_42
set_option maxHeartbeats 4000000 in
set_option maxRecDepth 100000 in
theorem c_X3_trace1 (l : Launch) (D : va_G) (T : Nat → ClassId) (ad : Nat → Nat) (I : Nat → Int32) (R : Nat → Nat → Int32) (sz : Nat) (lm : Nat) (n : Nat) (hAD : AD 34 ad) (hm : lm < 256) (hI : I 4 = nI lm) (hn : n < 8) : Met l yX3_trace wsX3_trace ({ frames := 3, cells := 0, slots := 0, locals := 65 }) (va_Pc [.ref (ad 0), .int (nI n), .int 1] (CB D T ad I R sz)) (va_Qi (fun r (f : Nat → Int32) => r = (trS (dr (R 0) lm) n 8) ∧ True) (fun (f : Nat → Int32) t => va_P D vwCl (cw T ad I (updR R 19 f)) t.heap) (cA 34 ad sz)) 0 0 (cA 34 ad sz) := by
  refine Met.ofW (cc := cX3_trace) (maxL := 3) (ret := (some .int)) (by decide) rfl ?_
  intro p e s m args_ below meth c s₁ B hml hv
  obtain ⟨rfl, hsz, hP, hK, hN⟩ := hv
  have hx := B.exec
  have hb := B.bytes
  have hr := B.returns
  have hts := atoms_spec (ws := wsX3_trace) B.pre
  have hown : s.vm.findClass RX3 = some m.cls := findClass_of_methodNamed B.named
  have hlocks := B.notSynchronized
  subst hsz
  have hS : va_S (cA 34 ad s.heap.size) s.heap s.heap [] := va_S.rf
  have hD : ∀ I R, va_D (cA 34 ad s.heap.size) (cw T ad I R) := fun I R => cw_D hAD (fun k hk => cA_in hk)
  have hl := lv_entry ([.ref (ad 0), .int (nI n), .int 1]) (n := 3) (Nat.le_of_ble_eq_true rfl)
  rw [lg_entry_eq]
  generalize (lg_sl ([.ref (ad 0), .int (nI n), .int 1]) ++ List.replicate (3 - (lg_sl ([.ref (ad 0), .int (nI n), .int 1])).length) Slot.unset).toArray = ls at hl ⊢
  have hl : lv_has ls 3 [(0, .ref (ad 0)), (1, .int (nI n)), (2, .int 1)] := hl
  refine lv_iload_n hx hb dX3_trace_0 rfl (lv_at hl 1 rfl) ?_
  refine cx_ri (va_runS (As := [.int (nI n)]) (rest := []) ⟨hx, hb, hml, hown, hts⟩ (c_X3_isNoPlace l  (nI n)) (va_cwS 1 hts gX3_trace_X3_isNoPlace rfl rfl rfl (by decide +kernel) ⟨Nat.le_of_ble_eq_true rfl, Nat.le_of_ble_eq_true rfl⟩) ⟨pc_blind, (fun U hU hW => ⟨rfl, trivial⟩)⟩ rfl rfl hl.1 rfl (lv_room (Nat.le_of_ble_eq_true rfl)) dX3_trace_1 ⟨Nat.le_of_ble_eq_true rfl, Nat.le_of_ble_eq_true rfl⟩) hS hP (fun H locs hP hS => ?_)
  refine cx_top (show (outI (nI n) 0 7) = 0 from out_8 hn) ?_
  refine lv_if_eq (tgt := 17) hx hb dX3_trace_4 (by decide) (fun c_4 => ?_) (fun c_4 => absurd c_4 (by decide))
  refine lv_iload_n hx hb dX3_trace_17 rfl (lv_at hl 2 rfl) ?_
  refine lv_iconst (v := 0) hx hb dX3_trace_18 (by decide) ?_
  refine lv_iconst (v := 1) hx hb dX3_trace_19 (by decide) ?_
  refine cx_ri (va_runS (As := [.int 1, .int 0, .int 1]) (rest := []) ⟨hx, hb, hml, hown, hts⟩ (c_X3_isOutside l  1 0 1) (va_cwS 3 hts gX3_trace_X3_isOutside rfl rfl rfl (by decide +kernel) ⟨Nat.le_of_ble_eq_true rfl, Nat.le_of_ble_eq_true rfl⟩) ⟨pc_blind, (fun U hU hW => ⟨rfl, trivial⟩)⟩ rfl rfl hl.1 rfl (lv_room (Nat.le_of_ble_eq_true rfl)) dX3_trace_20 ⟨Nat.le_of_ble_eq_true rfl, Nat.le_of_ble_eq_true rfl⟩) hS hP (fun H locs hP hS => ?_)
  refine cx_top (show (outI 1 0 1) = 0 from by decide) ?_
  refine lv_if_eq (tgt := 36) hx hb dX3_trace_23 (by decide) (fun c_23 => ?_) (fun c_23 => absurd c_23 (by decide))
  refine lv_aload_n hx hb dX3_trace_36 rfl (lv_at hl 0 rfl) ?_
  refine lv_iload_n hx hb dX3_trace_37 rfl (lv_at hl 1 rfl) ?_
  refine lv_iload_n hx hb dX3_trace_38 rfl (lv_at hl 2 rfl) ?_
  refine cx_wi (va_runV (As := [.int (nI n), .int 1]) (rest := []) ⟨hx, hb, hml, hown, hts⟩ (c_X3_traceNumber1 l D T ad I R _ lm n (hAD) (hm) (hI) (hn)) (cwV 2 hts gX3_trace_X3_traceNumber rfl rfl rfl (by decide +kernel) ⟨Nat.le_of_ble_eq_true rfl, Nat.le_of_ble_eq_true rfl⟩) ⟨CB.blind, va_recv hK hP (ci := 3) (q0 := 0) rfl cw_0, (CB.pre hP hK hN rfl)⟩ rfl rfl hl.1 rfl (lv_room (Nat.le_of_ble_eq_true rfl)) dX3_trace_39 ⟨Nat.le_of_ble_eq_true rfl, Nat.le_of_ble_eq_true rfl⟩) hS (cA_le hS.1) (cA_le hS.1) (fun u_39 H locs hu_39 hP hkk hS => ?_)
  exact W.iret (v := (trS (dr ((R 0)) lm) n 8)) hx hb hr (fun t ht hW => ⟨⟨(trS (dr ((R 0)) lm) n 8), u_39, rfl, ⟨rfl, trivial⟩, by show va_P _ _ _ _; rw [ht]; exact hP⟩, hS.F ht⟩) hS.2.2 dX3_trace_42
set_option maxHeartbeats 4000000 in
set_option maxRecDepth 100000 in
theorem c_X3_enough (l : Launch) (D : va_G) (T : Nat → ClassId) (ad : Nat → Nat) (I : Nat → Int32) (R : Nat → Nat → Int32) (sz : Nat) (lm : Nat) (x : Int32) (w : Nat) (hAD : AD 34 ad) (hm : lm < 256) (hI : I 4 = nI lm) (hx9 : outI x 0 9999999 = 0) (hw : w < 2) : Met l yX3_enough wsX3_enough ({ frames := 4, cells := 0, slots := 0, locals := 86 }) (va_Pc [.ref (ad 0), .int x, .int (nI w)] (CB D T ad I R sz)) (va_Qi (fun r (f : Nat → Int32) => r = (feF (erF (R 0) lm) x w) ∧ True) (fun (f : Nat → Int32) t => va_P D vwCl (cw T ad I (updR R 19 f)) t.heap) (cA 34 ad sz)) 0 0 (cA 34 ad sz) := by
  refine Met.ofW (cc := cX3_enough) (maxL := 3) (ret := (some .int)) (by decide) rfl ?_
  intro p e s m args_ below meth c s₁ B hml hv
  obtain ⟨rfl, hsz, hP, hK, hN⟩ := hv
  have hx := B.exec
  have hb := B.bytes
  have hr := B.returns
  have hts := atoms_spec (ws := wsX3_enough) B.pre
  have hown : s.vm.findClass RX3 = some m.cls := findClass_of_methodNamed B.named
  have hlocks := B.notSynchronized
  subst hsz
  have hS : va_S (cA 34 ad s.heap.size) s.heap s.heap [] := va_S.rf
  have hD : ∀ I R, va_D (cA 34 ad s.heap.size) (cw T ad I R) := fun I R => cw_D hAD (fun k hk => cA_in hk)
  have hl := lv_entry ([.ref (ad 0), .int x, .int (nI w)]) (n := 3) (Nat.le_of_ble_eq_true rfl)
  rw [lg_entry_eq]
  generalize (lg_sl ([.ref (ad 0), .int x, .int (nI w)]) ++ List.replicate (3 - (lg_sl ([.ref (ad 0), .int x, .int (nI w)])).length) Slot.unset).toArray = ls at hl ⊢
  have hl : lv_has ls 3 [(0, .ref (ad 0)), (1, .int x), (2, .int (nI w))] := hl
  refine lv_iload_n hx hb dX3_enough_0 rfl (lv_at hl 1 rfl) ?_
  refine lv_iconst (v := 0) hx hb dX3_enough_1 (by decide) ?_
  refine lv_ldc (v := 9999999) hx hb hown (hts (.constant RX3 192 (9999999)) (by decide +kernel)) dX3_enough_2 ?_
  refine cx_ri (va_runS (As := [.int x, .int 0, .int 9999999]) (rest := []) ⟨hx, hb, hml, hown, hts⟩ (c_X3_isOutside l  x 0 9999999) (va_cwS 3 hts gX3_enough_X3_isOutside rfl rfl rfl (by decide +kernel) ⟨Nat.le_of_ble_eq_true rfl, Nat.le_of_ble_eq_true rfl⟩) ⟨pc_blind, (fun U hU hW => ⟨rfl, trivial⟩)⟩ rfl rfl hl.1 rfl (lv_room (Nat.le_of_ble_eq_true rfl)) dX3_enough_4 ⟨Nat.le_of_ble_eq_true rfl, Nat.le_of_ble_eq_true rfl⟩) hS hP (fun H locs hP hS => ?_)
  refine cx_top (show (outI x 0 9999999) = 0 from hx9) ?_
  refine lv_if_eq (tgt := 20) hx hb dX3_enough_7 (by decide) (fun c_7 => ?_) (fun c_7 => absurd c_7 (by decide))
  refine lv_iload_n hx hb dX3_enough_20 rfl (lv_at hl 2 rfl) ?_
  refine lv_iconst (v := 0) hx hb dX3_enough_21 (by decide) ?_
  refine lv_iconst (v := 1) hx hb dX3_enough_22 (by decide) ?_
  refine cx_ri (va_runS (As := [.int (nI w), .int 0, .int 1]) (rest := []) ⟨hx, hb, hml, hown, hts⟩ (c_X3_isOutside l  (nI w) 0 1) (va_cwS 3 hts gX3_enough_X3_isOutside rfl rfl rfl (by decide +kernel) ⟨Nat.le_of_ble_eq_true rfl, Nat.le_of_ble_eq_true rfl⟩) ⟨pc_blind, (fun U hU hW => ⟨rfl, trivial⟩)⟩ rfl rfl hl.1 rfl (lv_room (Nat.le_of_ble_eq_true rfl)) dX3_enough_23 ⟨Nat.le_of_ble_eq_true rfl, Nat.le_of_ble_eq_true rfl⟩) hS hP (fun H locs hP hS => ?_)
  refine cx_top (show (outI (nI w) 0 1) = 0 from out_k (n := 1) (by omega) (by decide)) ?_
  refine lv_if_eq (tgt := 39) hx hb dX3_enough_26 (by decide) (fun c_26 => ?_) (fun c_26 => absurd c_26 (by decide))
  refine lv_aload_n hx hb dX3_enough_39 rfl (lv_at hl 0 rfl) ?_
  refine lv_iload_n hx hb dX3_enough_40 rfl (lv_at hl 1 rfl) ?_
  refine lv_iload_n hx hb dX3_enough_41 rfl (lv_at hl 2 rfl) ?_
  refine cx_wi (va_runV (As := [.int x, .int (nI w)]) (rest := []) ⟨hx, hb, hml, hown, hts⟩ (c_X3_fewestNumber l D T ad I R _ lm x w (hAD) (hm) (hI) (hw)) (cwV 2 hts gX3_enough_X3_fewestNumber rfl rfl rfl (by decide +kernel) ⟨Nat.le_of_ble_eq_true rfl, Nat.le_of_ble_eq_true rfl⟩) ⟨CB.blind, va_recv hK hP (ci := 3) (q0 := 0) rfl cw_0, (CB.pre hP hK hN rfl)⟩ rfl rfl hl.1 rfl (lv_room (Nat.le_of_ble_eq_true rfl)) dX3_enough_42 ⟨Nat.le_of_ble_eq_true rfl, Nat.le_of_ble_eq_true rfl⟩) hS (cA_le hS.1) (cA_le hS.1) (fun u_42 H locs hu_42 hP hkk hS => ?_)
  exact W.iret (v := (feF (erF ((R 0)) lm) x w)) hx hb hr (fun t ht hW => ⟨⟨(feF (erF ((R 0)) lm) x w), u_42, rfl, ⟨rfl, trivial⟩, by show va_P _ _ _ _; rw [ht]; exact hP⟩, hS.F ht⟩) hS.2.2 dX3_enough_45
set_option maxHeartbeats 4000000 in
set_option maxRecDepth 100000 in
theorem c_X3_ifTurned (l : Launch) (D : va_G) (T : Nat → ClassId) (ad : Nat → Nat) (I : Nat → Int32) (R : Nat → Nat → Int32) (lm : Nat) (b : Nat) (n : Nat) (hm : lm < 256) (hI : I 4 = nI lm) (hb8 : b < 8) (hn : n < 8) : Met l yX3_ifTurned wsX3_ifTurned ({ frames := 3, cells := 0, slots := 0, locals := 65 }) (va_Pc [.ref (ad 0), .int (nI b), .int (nI n)] (CR D T ad I R)) (RqI (trS (dr (R 0) lm) (n ^^^ b) 8)) 0 0 (fun _ => False) := by
  refine Met.ofW (cc := cX3_ifTurned) (maxL := 3) (ret := (some .int)) (by decide) rfl ?_
  intro p e s m args_ below meth c s₁ B hml hv
  obtain ⟨rfl, hP, hK, hN⟩ := hv
  have hx := B.exec
  have hb := B.bytes
  have hr := B.returns
  have hts := atoms_spec (ws := wsX3_ifTurned) B.pre
  have hown : s.vm.findClass RX3 = some m.cls := findClass_of_methodNamed B.named
  have hlocks := B.notSynchronized
  have hinX3 : ∀ w ∈ u_ws RX3 TX3 6, w ∈ wsX3_ifTurned := by decide +kernel
  have hS : va_S (fun _ => False) s.heap s.heap [] := va_S.rf
  have hl := lv_entry ([.ref (ad 0), .int (nI b), .int (nI n)]) (n := 3) (Nat.le_of_ble_eq_true rfl)
  rw [lg_entry_eq]
  generalize (lg_sl ([.ref (ad 0), .int (nI b), .int (nI n)]) ++ List.replicate (3 - (lg_sl ([.ref (ad 0), .int (nI b), .int (nI n)])).length) Slot.unset).toArray = ls at hl ⊢
  have hl : lv_has ls 3 [(0, .ref (ad 0)), (1, .int (nI b)), (2, .int (nI n))] := hl
  refine lv_iload_n hx hb dX3_ifTurned_0 rfl (lv_at hl 2 rfl) ?_
  refine cx_ri (va_runS (As := [.int (nI n)]) (rest := []) ⟨hx, hb, hml, hown, hts⟩ (c_X3_isNoPlace l  (nI n)) (va_cwS 1 hts gX3_ifTurned_X3_isNoPlace rfl rfl rfl (by decide +kernel) ⟨Nat.le_of_ble_eq_true rfl, Nat.le_of_ble_eq_true rfl⟩) ⟨pc_blind, (fun U hU hW => ⟨rfl, trivial⟩)⟩ rfl rfl hl.1 rfl (lv_room (Nat.le_of_ble_eq_true rfl)) dX3_ifTurned_1 ⟨Nat.le_of_ble_eq_true rfl, Nat.le_of_ble_eq_true rfl⟩) hS hP (fun H locs hP hS => ?_)
  refine cx_top (show (outI (nI n) 0 7) = 0 from out_8 hn) ?_
  refine lv_if_eq (tgt := 17) hx hb dX3_ifTurned_4 (by decide) (fun c_4 => ?_) (fun c_4 => absurd c_4 (by decide))
  refine lv_iload_n hx hb dX3_ifTurned_17 rfl (lv_at hl 1 rfl) ?_
  refine cx_ri (va_runS (As := [.int (nI b)]) (rest := []) ⟨hx, hb, hml, hown, hts⟩ (c_X3_isNoPlace l  (nI b)) (va_cwS 1 hts gX3_ifTurned_X3_isNoPlace rfl rfl rfl (by decide +kernel) ⟨Nat.le_of_ble_eq_true rfl, Nat.le_of_ble_eq_true rfl⟩) ⟨pc_blind, (fun U hU hW => ⟨rfl, trivial⟩)⟩ rfl rfl hl.1 rfl (lv_room (Nat.le_of_ble_eq_true rfl)) dX3_ifTurned_18 ⟨Nat.le_of_ble_eq_true rfl, Nat.le_of_ble_eq_true rfl⟩) hS hP (fun H locs hP hS => ?_)
  refine cx_top (show (outI (nI b) 0 7) = 0 from out_8 hb8) ?_
  refine lv_if_eq (tgt := 34) hx hb dX3_ifTurned_21 (by decide) (fun c_21 => ?_) (fun c_21 => absurd c_21 (by decide))
  refine lv_aload_n hx hb dX3_ifTurned_34 rfl (lv_at hl 0 rfl) ?_
  refine va_get (D := D) (ci := 3) (v := .ref (ad 1)) (C := RX3) (T := TX3) (N := 6) hx hb hts hinX3 hown hK hP 0 cw_0 rfl 0 (by decide) (hts (.fieldLink RX3 12 "SquareGears" "now" "LSquareGears$Gears;") (by decide +kernel)) (fun _ h9 => h9) rfl dX3_ifTurned_35 ?_
  refine lv_iload_n hx hb dX3_ifTurned_38 rfl (lv_at hl 2 rfl) ?_
  refine lv_iload_n hx hb dX3_ifTurned_39 rfl (lv_at hl 1 rfl) ?_
  refine lv_ixor hx hb dX3_ifTurned_40 ?_
  refine cx_top (show ((nI n) ^^^ (nI b)) = (nI (n ^^^ b)) from nI_xor hn hb8) ?_
  refine cx_ri (va_runVN (As := [.int (nI (n ^^^ b))]) (rest := []) ⟨hx, hb, hml, hown, hts⟩ (c_X0_traceAt l D T ad I R lm (n ^^^ b) (hm) (hI) (xor_lt hn hb8)) ⟨va_cnB 1 hts gX3_ifTurned_X0_traceAt_n96 rfl rfl rfl (nwm_X3_96 hN) (hts (.initialized RX0) (by decide +kernel)) (by decide +kernel) ⟨Nat.le_of_ble_eq_true rfl, Nat.le_of_ble_eq_true rfl⟩, (hts (.instanceMethod yX0_traceAt) (by decide +kernel)), (hts (.selects RX0 yX0_traceAt yX0_traceAt) (by decide +kernel))⟩ ⟨CR.blind, va_recv hK hP (ci := 0) (q0 := 1) rfl cw_1, (CR.pre hP hK hN rfl)⟩ rfl rfl hl.1 rfl (lv_room (Nat.le_of_ble_eq_true rfl)) dX3_ifTurned_41 ⟨Nat.le_of_ble_eq_true rfl, Nat.le_of_ble_eq_true rfl⟩) hS hP (fun H locs hP hS => ?_)
  exact W.iret (v := (trS (dr ((R 0)) lm) (n ^^^ b) 8)) hx hb hr (fun t ht hW => ⟨⟨(trS (dr ((R 0)) lm) (n ^^^ b) 8), (), rfl, (rfl), trivial⟩, hS.F ht⟩) hS.2.2 dX3_ifTurned_44
set_option maxHeartbeats 4000000 in
set_option maxRecDepth 100000 in
theorem c_X3_mainShare (l : Launch) (D : va_G) (T : Nat → ClassId) (ad : Nat → Nat) (I : Nat → Int32) (R : Nat → Nat → Int32) (lm : Nat) (hm : lm < 256) (hI : I 4 = nI lm) (hnd : NND) : Met l yX3_mainShare wsX3_mainShare ({ frames := 2, cells := 0, slots := 0, locals := 42 }) (va_Pc [.ref (ad 0)] (CR D T ad I R)) (RqD (msF (dr (R 0) lm))) 0 0 (fun _ => False) := by
  refine Met.ofW (cc := cX3_mainShare) (maxL := 5) (ret := (some .double)) (by decide) rfl ?_
  intro p e s m args_ below meth c s₁ B hml hv
  obtain ⟨rfl, hP, hK, hN⟩ := hv
  have hx := B.exec
  have hb := B.bytes
  have hr := B.returns
  have hts := atoms_spec (ws := wsX3_mainShare) B.pre
  have hown : s.vm.findClass RX3 = some m.cls := findClass_of_methodNamed B.named
  have hlocks := B.notSynchronized
  have hinX3 : ∀ w ∈ u_ws RX3 TX3 6, w ∈ wsX3_mainShare := by decide +kernel
  have hS : va_S (fun _ => False) s.heap s.heap [] := va_S.rf
  have hl := lv_entry ([.ref (ad 0)]) (n := 5) (Nat.le_of_ble_eq_true rfl)
  rw [lg_entry_eq]
  generalize (lg_sl ([.ref (ad 0)]) ++ List.replicate (5 - (lg_sl ([.ref (ad 0)])).length) Slot.unset).toArray = ls at hl ⊢
  have hl : lv_has ls 5 [(0, .ref (ad 0))] := hl
  refine lv_iconst (v := 0) hx hb dX3_mainShare_0 (by decide) ?_
  refine lv_istore_n (lv' := [(1, .int 0), (0, .ref (ad 0))]) hx hb dX3_mainShare_1 rfl hl (by decide) rfl (fun ls hl => ?_)
  refine lv_iconst (v := 0) hx hb dX3_mainShare_2 (by decide) ?_
  refine lv_istore_n (lv' := [(2, .int 0), (1, .int 0), (0, .ref (ad 0))]) hx hb dX3_mainShare_3 rfl hl (by decide) rfl (fun ls hl => ?_)
  refine lv_iconst (v := 0) hx hb dX3_mainShare_4 (by decide) ?_
  refine lv_istore_n (lv' := [(3, .int 0), (2, .int 0), (1, .int 0), (0, .ref (ad 0))]) hx hb dX3_mainShare_5 rfl hl (by decide) rfl (fun ls hl => ?_)
  suffices ih_6 : ∀ (fu : Nat) (i : Nat) (H : Heap) (locs : List Loc) (ls : Array Slot), 8 - i < fu → (i ≤ 8) → va_P D vwCl (cw T ad I R) H →  va_S (fun _ => False) s.heap H locs → lv_has ls 5 [(0, .ref (ad 0)), (1, .int (mxS (dr (R 0) lm) i)), (2, .int (sqS (dr (R 0) lm) i)), (3, .int (nI i))] → W p l e (headSpec wsX3_mainShare ({ frames := 2, cells := 0, slots := 0, locals := 42 })).room s m ([.ref (ad 0)] : List Value).toArray below meth c H locs 0 0 (MQ below (RqD (msF (dr (R 0) lm))) ([.ref (ad 0)] : List Value).toArray s 0 0 (fun _ => False)) (F0 m 6 ls []) from
    ih_6 _ 0 _ _ _ (Nat.lt_succ_self _) (by omega) hP hS (lv_sub hl [3, 2, 1, 0] rfl)
  intro fu
  induction fu with
  | zero => intro i H locs ls hfu; exact absurd hfu (Nat.not_lt_zero _)
  | succ fu ih_6 =>
    intro i H locs ls hfu hi hP hS hl
    refine lv_iload_n hx hb dX3_mainShare_6 rfl (lv_at hl 3 rfl) ?_
    refine lv_bipush (v := 8) hx hb dX3_mainShare_7 (by decide) ?_
    refine lv_icmp_ge (tgt := 49) hx hb dX3_mainShare_9 (by decide) (fun c_9 => ?_) (fun c_9 => ?_)
    · have c_9 : 8 ≤ i := (nI_leI (a := 8) (b := i) (by omega) (by omega)).mp c_9
      obtain rfl : i = 8 := by omega
      refine lv_iload_n hx hb dX3_mainShare_49 rfl (lv_at hl 2 rfl) ?_
      refine lv_if_ne (tgt := 57) hx hb dX3_mainShare_50 (by decide) (fun c_50 => ?_) (fun c_50 => ?_)
      · refine lv_iload_n hx hb dX3_mainShare_57 rfl (lv_at hl 1 rfl) ?_
        refine lv_i2d hx hb dX3_mainShare_58 ?_
        refine lv_iload_n hx hb dX3_mainShare_59 rfl (lv_at hl 2 rfl) ?_
        refine lv_i2d hx hb dX3_mainShare_60 ?_
        refine lv_ddiv hx hb dX3_mainShare_61 (hnd _ _ c_50) ?_
        exact W.dret (v := (FP.ddiv (FP.i2d (mxS (dr (R 0) lm) 8)) (FP.i2d (sqS (dr (R 0) lm) 8)))) hx hb hr (fun t ht hW => ⟨⟨(FP.ddiv (FP.i2d (mxS (dr (R 0) lm) 8)) (FP.i2d (sqS (dr (R 0) lm) 8))), (), rfl, (by first | exact (if_pos c_50).symm | exact (if_neg c_50).symm), trivial⟩, hS.F ht⟩) hS.2.2 dX3_mainShare_62
      · refine lv_dconst0 hx hb dX3_mainShare_53 ?_
        refine lv_goto (tgt := 62) hx hb dX3_mainShare_54 (by decide) ?_
        exact W.dret (v := (FP.dconst0)) hx hb hr (fun t ht hW => ⟨⟨(FP.dconst0), (), rfl, (by first | exact (if_pos c_50).symm | exact (if_neg c_50).symm), trivial⟩, hS.F ht⟩) hS.2.2 dX3_mainShare_62
    · have c_9 : ¬ (8 ≤ i) := fun h => c_9 ((nI_leI (a := 8) (b := i) (by omega) (by omega)).mpr h)
      refine lv_aload_n hx hb dX3_mainShare_12 rfl (lv_at hl 0 rfl) ?_
      refine va_get (D := D) (ci := 3) (v := .ref (ad 1)) (C := RX3) (T := TX3) (N := 6) hx hb hts hinX3 hown hK hP 0 cw_0 rfl 0 (by decide) (hts (.fieldLink RX3 12 "SquareGears" "now" "LSquareGears$Gears;") (by decide +kernel)) (fun _ h9 => h9) rfl dX3_mainShare_13 ?_
      refine lv_iload_n hx hb dX3_mainShare_16 rfl (lv_at hl 3 rfl) ?_
      refine cx_ri (va_runVN (As := [.int (nI i)]) (rest := []) ⟨hx, hb, hml, hown, hts⟩ (c_X0_drawnAmplitude l D T ad I R lm i (hm) (hI) (by omega)) ⟨va_cnB 1 hts gX3_mainShare_X0_drawnAmplitude_n201 rfl rfl rfl (nwm_X3_201 hN) (hts (.initialized RX0) (by decide +kernel)) (by decide +kernel) ⟨Nat.le_of_ble_eq_true rfl, Nat.le_of_ble_eq_true rfl⟩, (hts (.instanceMethod yX0_drawnAmplitude) (by decide +kernel)), (hts (.selects RX0 yX0_drawnAmplitude yX0_drawnAmplitude) (by decide +kernel))⟩ ⟨CR.blind, va_recv hK hP (ci := 0) (q0 := 1) rfl cw_1, (CR.pre hP hK hN rfl)⟩ rfl rfl hl.1 rfl (lv_room (Nat.le_of_ble_eq_true rfl)) dX3_mainShare_17 ⟨Nat.le_of_ble_eq_true rfl, Nat.le_of_ble_eq_true rfl⟩) hS hP (fun H locs hP hS => ?_)
      refine lv_aload_n hx hb dX3_mainShare_20 rfl (lv_at hl 0 rfl) ?_
      refine va_get (D := D) (ci := 3) (v := .ref (ad 1)) (C := RX3) (T := TX3) (N := 6) hx hb hts hinX3 hown hK hP 0 cw_0 rfl 0 (by decide) (hts (.fieldLink RX3 12 "SquareGears" "now" "LSquareGears$Gears;") (by decide +kernel)) (fun _ h9 => h9) rfl dX3_mainShare_21 ?_
      refine lv_iload_n hx hb dX3_mainShare_24 rfl (lv_at hl 3 rfl) ?_
      refine cx_ri (va_runVN (As := [.int (nI i)]) (rest := [.int (dr ((R 0)) lm i)]) ⟨hx, hb, hml, hown, hts⟩ (c_X0_drawnAmplitude l D T ad I R lm i (hm) (hI) (by omega)) ⟨va_cnB 1 hts gX3_mainShare_X0_drawnAmplitude_n201 rfl rfl rfl (nwm_X3_201 hN) (hts (.initialized RX0) (by decide +kernel)) (by decide +kernel) ⟨Nat.le_of_ble_eq_true rfl, Nat.le_of_ble_eq_true rfl⟩, (hts (.instanceMethod yX0_drawnAmplitude) (by decide +kernel)), (hts (.selects RX0 yX0_drawnAmplitude yX0_drawnAmplitude) (by decide +kernel))⟩ ⟨CR.blind, va_recv hK hP (ci := 0) (q0 := 1) rfl cw_1, (CR.pre hP hK hN rfl)⟩ rfl rfl hl.1 rfl (lv_room (Nat.le_of_ble_eq_true rfl)) dX3_mainShare_25 ⟨Nat.le_of_ble_eq_true rfl, Nat.le_of_ble_eq_true rfl⟩) hS hP (fun H locs hP hS => ?_)
      refine lv_imul hx hb dX3_mainShare_28 ?_
      refine lv_istore (lv' := [(4, .int ((dr ((R 0)) lm i) * (dr ((R 0)) lm i))), (0, .ref (ad 0)), (1, .int (mxS (dr (R 0) lm) i)), (2, .int (sqS (dr (R 0) lm) i)), (3, .int (nI i))]) hx hb dX3_mainShare_29 hl (by decide) rfl (fun ls hl => ?_)
      refine lv_iload_n hx hb dX3_mainShare_31 rfl (lv_at hl 2 rfl) ?_
      refine lv_iload hx hb dX3_mainShare_32 (lv_at hl 0 rfl) ?_
      refine va_mmax hx hb (hml.trans hl.1.symm) hown (hts (.methodLink RX3 105 Lib.Math.max.name) (by decide +kernel)) (hts (.static Lib.Math.max.name) (by decide +kernel)) (hts (.initialized "java/lang/Math") (by decide +kernel)) (hts (.code Lib.Math.max.name Lib.Math.max.code 2 (some .int)) (by decide +kernel)) (Nat.le_of_ble_eq_true rfl) (Nat.le_of_ble_eq_true rfl) (Nat.zero_le _) (Nat.zero_le _) dX3_mainShare_34 ?_
      refine lv_istore_n (lv' := [(1, .int (if (mxS (dr (R 0) lm) i) < ((dr ((R 0)) lm i) * (dr ((R 0)) lm i)) then ((dr ((R 0)) lm i) * (dr ((R 0)) lm i)) else (mxS (dr (R 0) lm) i))), (4, .int ((dr ((R 0)) lm i) * (dr ((R 0)) lm i))), (0, .ref (ad 0)), (2, .int (sqS (dr (R 0) lm) i)), (3, .int (nI i))]) hx hb dX3_mainShare_37 rfl hl (by decide) rfl (fun ls hl => ?_)
      refine lv_iload_n hx hb dX3_mainShare_38 rfl (lv_at hl 3 rfl) ?_
      refine lv_iload hx hb dX3_mainShare_39 (lv_at hl 1 rfl) ?_
      refine lv_iadd hx hb dX3_mainShare_41 ?_
      refine lv_istore_n (lv' := [(2, .int ((sqS (dr (R 0) lm) i) + ((dr ((R 0)) lm i) * (dr ((R 0)) lm i)))), (1, .int (if (mxS (dr (R 0) lm) i) < ((dr ((R 0)) lm i) * (dr ((R 0)) lm i)) then ((dr ((R 0)) lm i) * (dr ((R 0)) lm i)) else (mxS (dr (R 0) lm) i))), (4, .int ((dr ((R 0)) lm i) * (dr ((R 0)) lm i))), (0, .ref (ad 0)), (3, .int (nI i))]) hx hb dX3_mainShare_42 rfl hl (by decide) rfl (fun ls hl => ?_)
      refine lv_iinc (k := 4) (v := (nI (i + 1))) (lv' := [(3, .int (nI (i + 1))), (2, .int ((sqS (dr (R 0) lm) i) + ((dr ((R 0)) lm i) * (dr ((R 0)) lm i)))), (1, .int (if (mxS (dr (R 0) lm) i) < ((dr ((R 0)) lm i) * (dr ((R 0)) lm i)) then ((dr ((R 0)) lm i) * (dr ((R 0)) lm i)) else (mxS (dr (R 0) lm) i))), (4, .int ((dr ((R 0)) lm i) * (dr ((R 0)) lm i))), (0, .ref (ad 0))]) hx hb dX3_mainShare_43 hl rfl (nI_add i 1) (by decide) rfl (fun ls hl => ?_)
      refine lv_goto (tgt := 6) hx hb dX3_mainShare_46 (by decide) ?_
      exact ih_6 (i + 1) _ _ _ (by omega) (by omega) hP hS (lv_sub hl [4, 2, 1, 0] rfl)

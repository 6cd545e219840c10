set_option maxHeartbeats 4000000 in
set_option maxRecDepth 100000 in
theorem c_J6_bitCount_0f7a4 (l : Launch) (x : Int32) : Met l yJ6_bitCount_0f7a4 wsJ6_bitCount_0f7a4 ({ frames := 0, cells := 0, slots := 0, locals := 0 }) (va_Pc [.int x] (fun _ => True)) (RqI (bcF x)) 0 0 (fun _ => False) := by
  refine Met.ofW (cc := cJ6_bitCount_0f7a4) (maxL := 1) (ret := (some .int)) (by decide) rfl ?_
  intro p e s m args_ below meth c s₁ B hml hv
  obtain ⟨rfl, -⟩ := hv
  have hP : va_P ((fun _ => 0), (fun _ _ => 0)) [] [] s.heap := fun k q h => by simp at h
  have hx := B.exec
  have hb := B.bytes
  have hr := B.returns
  have hts := atoms_spec (ws := wsJ6_bitCount_0f7a4) B.pre
  have hown : s.vm.findClass RJ6 = some m.cls := findClass_of_methodNamed B.named
  have hlocks := B.notSynchronized
  have hS : va_S (fun _ => False) s.heap s.heap [] := va_S.rf
  have hl := lv_entry ([.int x]) (n := 1) (Nat.le_of_ble_eq_true rfl)
  rw [lg_entry_eq]
  generalize (lg_sl ([.int x]) ++ List.replicate (1 - (lg_sl ([.int x])).length) Slot.unset).toArray = ls at hl ⊢
  have hl : lv_has ls 1 [(0, .int x)] := hl
  refine lv_iload_n hx hb dJ6_bitCount_0f7a4_0 rfl (lv_at hl 0 rfl) ?_
  refine lv_iload_n hx hb dJ6_bitCount_0f7a4_1 rfl (lv_at hl 0 rfl) ?_
  refine lv_iconst (v := 1) hx hb dJ6_bitCount_0f7a4_2 (by decide) ?_
  refine lv_iushr hx hb dJ6_bitCount_0f7a4_3 rfl ?_
  refine lv_ldcw (v := 1431655765) hx hb hown (hts (.constant RJ6 265 (1431655765)) (by decide +kernel)) dJ6_bitCount_0f7a4_4 ?_
  refine lv_iand hx hb dJ6_bitCount_0f7a4_7 ?_
  refine lv_isub hx hb dJ6_bitCount_0f7a4_8 ?_
  refine cx_top (show (x - (((Int32.toUInt32 x >>> (Int32.toUInt32 1 &&& Int32.toUInt32 31)).toInt32) &&& 1431655765)) = (bc1 x) from rfl) ?_
  refine lv_istore_n (lv' := [(0, .int (bc1 x))]) hx hb dJ6_bitCount_0f7a4_9 rfl hl (by decide) rfl (fun ls hl => ?_)
  refine lv_iload_n hx hb dJ6_bitCount_0f7a4_10 rfl (lv_at hl 0 rfl) ?_
  refine lv_ldcw (v := 858993459) hx hb hown (hts (.constant RJ6 266 (858993459)) (by decide +kernel)) dJ6_bitCount_0f7a4_11 ?_
  refine lv_iand hx hb dJ6_bitCount_0f7a4_14 ?_
  refine lv_iload_n hx hb dJ6_bitCount_0f7a4_15 rfl (lv_at hl 0 rfl) ?_
  refine lv_iconst (v := 2) hx hb dJ6_bitCount_0f7a4_16 (by decide) ?_
  refine lv_iushr hx hb dJ6_bitCount_0f7a4_17 rfl ?_
  refine lv_ldcw (v := 858993459) hx hb hown (hts (.constant RJ6 266 (858993459)) (by decide +kernel)) dJ6_bitCount_0f7a4_18 ?_
  refine lv_iand hx hb dJ6_bitCount_0f7a4_21 ?_
  refine lv_iadd hx hb dJ6_bitCount_0f7a4_22 ?_
  refine cx_top (show (((bc1 x) &&& 858993459) + (((Int32.toUInt32 (bc1 x) >>> (Int32.toUInt32 2 &&& Int32.toUInt32 31)).toInt32) &&& 858993459)) = (bc2 (bc1 x)) from rfl) ?_
  refine lv_istore_n (lv' := [(0, .int (bc2 (bc1 x)))]) hx hb dJ6_bitCount_0f7a4_23 rfl hl (by decide) rfl (fun ls hl => ?_)
  refine lv_iload_n hx hb dJ6_bitCount_0f7a4_24 rfl (lv_at hl 0 rfl) ?_
  refine lv_iload_n hx hb dJ6_bitCount_0f7a4_25 rfl (lv_at hl 0 rfl) ?_
  refine lv_iconst (v := 4) hx hb dJ6_bitCount_0f7a4_26 (by decide) ?_
  refine lv_iushr hx hb dJ6_bitCount_0f7a4_27 rfl ?_
  refine lv_iadd hx hb dJ6_bitCount_0f7a4_28 ?_
  refine lv_ldcw (v := 252645135) hx hb hown (hts (.constant RJ6 267 (252645135)) (by decide +kernel)) dJ6_bitCount_0f7a4_29 ?_
  refine lv_iand hx hb dJ6_bitCount_0f7a4_32 ?_
  refine cx_top (show (((bc2 (bc1 x)) + ((Int32.toUInt32 (bc2 (bc1 x)) >>> (Int32.toUInt32 4 &&& Int32.toUInt32 31)).toInt32)) &&& 252645135) = (bc3 (bc2 (bc1 x))) from rfl) ?_
  refine lv_istore_n (lv' := [(0, .int (bc3 (bc2 (bc1 x))))]) hx hb dJ6_bitCount_0f7a4_33 rfl hl (by decide) rfl (fun ls hl => ?_)
  refine lv_iload_n hx hb dJ6_bitCount_0f7a4_34 rfl (lv_at hl 0 rfl) ?_
  refine lv_iload_n hx hb dJ6_bitCount_0f7a4_35 rfl (lv_at hl 0 rfl) ?_
  refine lv_bipush (v := 8) hx hb dJ6_bitCount_0f7a4_36 (by decide) ?_
  refine lv_iushr hx hb dJ6_bitCount_0f7a4_38 rfl ?_
  refine lv_iadd hx hb dJ6_bitCount_0f7a4_39 ?_
  refine cx_top (show ((bc3 (bc2 (bc1 x))) + ((Int32.toUInt32 (bc3 (bc2 (bc1 x))) >>> (Int32.toUInt32 8 &&& Int32.toUInt32 31)).toInt32)) = (bc4 (bc3 (bc2 (bc1 x)))) from rfl) ?_
  refine lv_istore_n (lv' := [(0, .int (bc4 (bc3 (bc2 (bc1 x)))))]) hx hb dJ6_bitCount_0f7a4_40 rfl hl (by decide) rfl (fun ls hl => ?_)
  refine lv_iload_n hx hb dJ6_bitCount_0f7a4_41 rfl (lv_at hl 0 rfl) ?_
  refine lv_iload_n hx hb dJ6_bitCount_0f7a4_42 rfl (lv_at hl 0 rfl) ?_
  refine lv_bipush (v := 16) hx hb dJ6_bitCount_0f7a4_43 (by decide) ?_
  refine lv_iushr hx hb dJ6_bitCount_0f7a4_45 rfl ?_
  refine lv_iadd hx hb dJ6_bitCount_0f7a4_46 ?_
  refine cx_top (show ((bc4 (bc3 (bc2 (bc1 x)))) + ((Int32.toUInt32 (bc4 (bc3 (bc2 (bc1 x)))) >>> (Int32.toUInt32 16 &&& Int32.toUInt32 31)).toInt32)) = (bc5 (bc4 (bc3 (bc2 (bc1 x))))) from rfl) ?_
  refine lv_istore_n (lv' := [(0, .int (bc5 (bc4 (bc3 (bc2 (bc1 x))))))]) hx hb dJ6_bitCount_0f7a4_47 rfl hl (by decide) rfl (fun ls hl => ?_)
  refine lv_iload_n hx hb dJ6_bitCount_0f7a4_48 rfl (lv_at hl 0 rfl) ?_
  refine lv_bipush (v := 63) hx hb dJ6_bitCount_0f7a4_49 (by decide) ?_
  refine lv_iand hx hb dJ6_bitCount_0f7a4_51 ?_
  exact W.iret (v := ((bc5 (bc4 (bc3 (bc2 (bc1 x))))) &&& 63)) hx hb hr (fun t ht hW => ⟨⟨((bc5 (bc4 (bc3 (bc2 (bc1 x))))) &&& 63), (), rfl, (rfl), trivial⟩, hS.F ht⟩) hS.2.2 dJ6_bitCount_0f7a4_52
set_option maxHeartbeats 4000000 in
set_option maxRecDepth 100000 in
theorem c_X3_wave (l : Launch) (k : Nat) (n : Nat) (hk : k < 8) (hn : n < 8) : Met l yX3_wave wsX3_wave ({ frames := 1, cells := 0, slots := 0, locals := 20 }) (va_Pc [.int (nI k), .int (nI n)] (fun _ => True)) (RqI (wv k n)) 0 0 (fun _ => False) := by
  refine Met.ofW (cc := cX3_wave) (maxL := 2) (ret := (some .int)) (by decide) rfl ?_
  intro p e s m args_ below meth c s₁ B hml hv
  obtain ⟨rfl, -⟩ := hv
  have hP : va_P ((fun _ => 0), (fun _ _ => 0)) [] [] s.heap := fun k q h => by simp at h
  have hx := B.exec
  have hb := B.bytes
  have hr := B.returns
  have hts := atoms_spec (ws := wsX3_wave) B.pre
  have hown : s.vm.findClass RX3 = some m.cls := findClass_of_methodNamed B.named
  have hlocks := B.notSynchronized
  have hS : va_S (fun _ => False) s.heap s.heap [] := va_S.rf
  have hl := lv_entry ([.int (nI k), .int (nI n)]) (n := 2) (Nat.le_of_ble_eq_true rfl)
  rw [lg_entry_eq]
  generalize (lg_sl ([.int (nI k), .int (nI n)]) ++ List.replicate (2 - (lg_sl ([.int (nI k), .int (nI n)])).length) Slot.unset).toArray = ls at hl ⊢
  have hl : lv_has ls 2 [(0, .int (nI k)), (1, .int (nI n))] := hl
  refine lv_iload_n hx hb dX3_wave_0 rfl (lv_at hl 0 rfl) ?_
  refine lv_iload_n hx hb dX3_wave_1 rfl (lv_at hl 1 rfl) ?_
  refine lv_iand hx hb dX3_wave_2 ?_
  refine cx_ri (va_runS (As := [.int ((nI k) &&& (nI n))]) (rest := []) ⟨hx, hb, hml, hown, hts⟩ (c_J6_bitCount_0f7a4 l  ((nI k) &&& (nI n))) (va_cwS 1 hts gX3_wave_J6_bitCount_0f7a4 rfl rfl rfl (by decide +kernel) ⟨Nat.le_of_ble_eq_true rfl, Nat.le_of_ble_eq_true rfl⟩) ⟨pc_blind, (fun U hU hW => ⟨rfl, trivial⟩)⟩ rfl rfl hl.1 rfl (lv_room (Nat.le_of_ble_eq_true rfl)) dX3_wave_3 ⟨Nat.le_of_ble_eq_true rfl, Nat.le_of_ble_eq_true rfl⟩) hS hP (fun H locs hP hS => ?_)
  refine lv_iconst (v := 1) hx hb dX3_wave_6 (by decide) ?_
  refine lv_iand hx hb dX3_wave_7 ?_
  refine lv_if_ne (tgt := 15) hx hb dX3_wave_8 (by decide) (fun c_8 => ?_) (fun c_8 => ?_)
  · refine lv_iconst (v := (-1)) hx hb dX3_wave_15 (by decide) ?_
    exact W.iret (v := (-1)) hx hb hr (fun t ht hW => ⟨⟨(-1), (), rfl, (by first | exact wv_t hk hn (by assumption) | exact wv_f hk hn (by assumption)), trivial⟩, hS.F ht⟩) hS.2.2 dX3_wave_16
  · refine lv_iconst (v := 1) hx hb dX3_wave_11 (by decide) ?_
    refine lv_goto (tgt := 16) hx hb dX3_wave_12 (by decide) ?_
    exact W.iret (v := 1) hx hb hr (fun t ht hW => ⟨⟨1, (), rfl, (by first | exact wv_t hk hn (by assumption) | exact wv_f hk hn (by assumption)), trivial⟩, hS.F ht⟩) hS.2.2 dX3_wave_16
set_option maxHeartbeats 4000000 in
set_option maxRecDepth 100000 in
theorem c_X0_isLost (l : Launch) (D : va_G) (T : Nat → ClassId) (ad : Nat → Nat) (I : Nat → Int32) (R : Nat → Nat → Int32) (lm : Nat) (k : Nat) (hm : lm < 256) (hI : I 4 = nI lm) (hk : k < 8) : Met l yX0_isLost wsX0_isLost ({ frames := 0, cells := 0, slots := 0, locals := 0 }) (va_Pc [.ref (ad 1), .int (nI k)] (CR D T ad I R)) (RqI (lbI lm k)) 0 0 (fun _ => False) := by
  refine Met.ofW (cc := cX0_isLost) (maxL := 2) (ret := (some .boolean)) (by decide) rfl ?_
  intro p e s m args_ below meth c s₁ B hml hv
  obtain ⟨rfl, hP, hK, hN⟩ := hv
  have hx := B.exec
  have hb := B.bytes
  have hr := B.returns
  have hts := atoms_spec (ws := wsX0_isLost) B.pre
  have hown : s.vm.findClass RX0 = some m.cls := findClass_of_methodNamed B.named
  have hlocks := B.notSynchronized
  have hinX0 : ∀ w ∈ u_ws RX0 TX0 4, w ∈ wsX0_isLost := by decide +kernel
  have hS : va_S (fun _ => False) s.heap s.heap [] := va_S.rf
  have hl := lv_entry ([.ref (ad 1), .int (nI k)]) (n := 2) (Nat.le_of_ble_eq_true rfl)
  rw [lg_entry_eq]
  generalize (lg_sl ([.ref (ad 1), .int (nI k)]) ++ List.replicate (2 - (lg_sl ([.ref (ad 1), .int (nI k)])).length) Slot.unset).toArray = ls at hl ⊢
  have hl : lv_has ls 2 [(0, .ref (ad 1)), (1, .int (nI k))] := hl
  refine lv_aload_n hx hb dX0_isLost_0 rfl (lv_at hl 0 rfl) ?_
  refine va_get (D := D) (ci := 0) (v := .int (I 4)) (C := RX0) (T := TX0) (N := 4) hx hb hts hinX0 hown hK hP 1 cw_1 rfl 2 (by decide) (hts (.fieldLink RX0 18 "SquareGears$Gears" "lostWheels" "I") (by decide +kernel)) (fun _ h9 => h9) rfl dX0_isLost_1 ?_
  refine lv_iload_n hx hb dX0_isLost_4 rfl (lv_at hl 1 rfl) ?_
  refine lv_ishr hx hb dX0_isLost_5 ?_
  refine lv_iconst (v := 1) hx hb dX0_isLost_6 (by decide) ?_
  refine lv_iand hx hb dX0_isLost_7 ?_
  refine cx_top (show (((I 4) >>> ((nI k) &&& 31)) &&& 1) = (lbI lm k) from by rw [hI]; exact lb_shr hm hk) ?_
  refine lv_iconst (v := 1) hx hb dX0_isLost_8 (by decide) ?_
  refine lv_icmp_ne (tgt := 16) hx hb dX0_isLost_9 (by decide) (fun c_9 => ?_) (fun c_9 => ?_)
  · refine lv_iconst (v := 0) hx hb dX0_isLost_16 (by decide) ?_
    exact W.zret (v := 0) hx hb hr (rfl) (fun t ht hW => ⟨⟨0, (), rfl, (by first | exact Eq.symm (by assumption) | exact (lb_ne1 (by assumption)).symm), trivial⟩, hS.F ht⟩) hS.2.2 dX0_isLost_17
  · refine lv_iconst (v := 1) hx hb dX0_isLost_12 (by decide) ?_
    refine lv_goto (tgt := 17) hx hb dX0_isLost_13 (by decide) ?_
    exact W.zret (v := 1) hx hb hr (rfl) (fun t ht hW => ⟨⟨1, (), rfl, (by first | exact Eq.symm (by assumption) | exact (lb_ne1 (by assumption)).symm), trivial⟩, hS.F ht⟩) hS.2.2 dX0_isLost_17
set_option maxHeartbeats 4000000 in
set_option maxRecDepth 100000 in
theorem c_X0_drawnAmplitude (l : Launch) (D : va_G) (T : Nat → ClassId) (ad : Nat → Nat) (I : Nat → Int32) (R : Nat → Nat → Int32) (lm : Nat) (k : Nat) (hm : lm < 256) (hI : I 4 = nI lm) (hk : k < 8) : Met l yX0_drawnAmplitude wsX0_drawnAmplitude ({ frames := 1, cells := 0, slots := 0, locals := 21 }) (va_Pc [.ref (ad 1), .int (nI k)] (CR D T ad I R)) (RqI (dr (R 0) lm k)) 0 0 (fun _ => False) := by
  refine Met.ofW (cc := cX0_drawnAmplitude) (maxL := 2) (ret := (some .int)) (by decide) rfl ?_
  intro p e s m args_ below meth c s₁ B hml hv
  obtain ⟨rfl, hP, hK, hN⟩ := hv
  have hx := B.exec
  have hb := B.bytes
  have hr := B.returns
  have hts := atoms_spec (ws := wsX0_drawnAmplitude) B.pre
  have hown : s.vm.findClass RX0 = some m.cls := findClass_of_methodNamed B.named
  have hlocks := B.notSynchronized
  have hinX0 : ∀ w ∈ u_ws RX0 TX0 4, w ∈ wsX0_drawnAmplitude := by decide +kernel
  have hS : va_S (fun _ => False) s.heap s.heap [] := va_S.rf
  have hl := lv_entry ([.ref (ad 1), .int (nI k)]) (n := 2) (Nat.le_of_ble_eq_true rfl)
  rw [lg_entry_eq]
  generalize (lg_sl ([.ref (ad 1), .int (nI k)]) ++ List.replicate (2 - (lg_sl ([.ref (ad 1), .int (nI k)])).length) Slot.unset).toArray = ls at hl ⊢
  have hl : lv_has ls 2 [(0, .ref (ad 1)), (1, .int (nI k))] := hl
  refine lv_aload_n hx hb dX0_drawnAmplitude_0 rfl (lv_at hl 0 rfl) ?_
  refine lv_iload_n hx hb dX0_drawnAmplitude_1 rfl (lv_at hl 1 rfl) ?_
  refine cx_ri (va_runV (As := [.int (nI k)]) (rest := []) ⟨hx, hb, hml, hown, hts⟩ (c_X0_isLost l D T ad I R lm k (hm) (hI) (hk)) (cwV 1 hts gX0_drawnAmplitude_X0_isLost rfl rfl rfl (by decide +kernel) ⟨Nat.le_of_ble_eq_true rfl, Nat.le_of_ble_eq_true rfl⟩) ⟨CR.blind, va_recv hK hP (ci := 0) (q0 := 1) rfl cw_1, (CR.pre hP hK hN rfl)⟩ rfl rfl hl.1 rfl (lv_room (Nat.le_of_ble_eq_true rfl)) dX0_drawnAmplitude_2 ⟨Nat.le_of_ble_eq_true rfl, Nat.le_of_ble_eq_true rfl⟩) hS hP (fun H locs hP hS => ?_)
  refine lv_if_eq (tgt := 12) hx hb dX0_drawnAmplitude_5 (by decide) (fun c_5 => ?_) (fun c_5 => ?_)
  · refine lv_aload_n hx hb dX0_drawnAmplitude_12 rfl (lv_at hl 0 rfl) ?_
    refine va_get (D := D) (ci := 0) (v := .ref (ad 2)) (C := RX0) (T := TX0) (N := 4) hx hb hts hinX0 hown hK hP 1 cw_1 rfl 0 (by decide) (hts (.fieldLink RX0 9 "SquareGears$Gears" "amplitudes" "[I") (by decide +kernel)) (fun _ h9 => h9) rfl dX0_drawnAmplitude_13 ?_
    refine lv_iload_n hx hb dX0_drawnAmplitude_16 rfl (lv_at hl 1 rfl) ?_
    refine cx_iald (k := k) hx hb hK hP 2 1 cw_2 rfl (by omega) (by decide) dX0_drawnAmplitude_17 ?_
    exact W.iret (v := ((R 0) k)) hx hb hr (fun t ht hW => ⟨⟨((R 0) k), (), rfl, (by first | exact dr_t (by assumption) | exact dr_f (by assumption)), trivial⟩, hS.F ht⟩) hS.2.2 dX0_drawnAmplitude_18
  · refine lv_iconst (v := 0) hx hb dX0_drawnAmplitude_8 (by decide) ?_
    refine lv_goto (tgt := 18) hx hb dX0_drawnAmplitude_9 (by decide) ?_
    exact W.iret (v := 0) hx hb hr (fun t ht hW => ⟨⟨0, (), rfl, (by first | exact dr_t (by assumption) | exact dr_f (by assumption)), trivial⟩, hS.F ht⟩) hS.2.2 dX0_drawnAmplitude_18
set_option maxHeartbeats 4000000 in
set_option maxRecDepth 100000 in
theorem c_X0_drawingWheels (l : Launch) (D : va_G) (T : Nat → ClassId) (ad : Nat → Nat) (I : Nat → Int32) (R : Nat → Nat → Int32) : Met l yX0_drawingWheels wsX0_drawingWheels ({ frames := 0, cells := 0, slots := 0, locals := 0 }) (va_Pc [.ref (ad 1)] (CR D T ad I R)) (RqI (cnS (R 0) 8)) 0 0 (fun _ => False) := by
  refine Met.ofW (cc := cX0_drawingWheels) (maxL := 3) (ret := (some .int)) (by decide) rfl ?_
  intro p e s m args_ below meth c s₁ B hml hv
  obtain ⟨rfl, hP, hK, hN⟩ := hv
  have hx := B.exec
  have hb := B.bytes
  have hr := B.returns
  have hts := atoms_spec (ws := wsX0_drawingWheels) B.pre
  have hown : s.vm.findClass RX0 = some m.cls := findClass_of_methodNamed B.named
  have hlocks := B.notSynchronized
  have hinX0 : ∀ w ∈ u_ws RX0 TX0 4, w ∈ wsX0_drawingWheels := by decide +kernel
  have hS : va_S (fun _ => False) s.heap s.heap [] := va_S.rf
  have hl := lv_entry ([.ref (ad 1)]) (n := 3) (Nat.le_of_ble_eq_true rfl)
  rw [lg_entry_eq]
  generalize (lg_sl ([.ref (ad 1)]) ++ List.replicate (3 - (lg_sl ([.ref (ad 1)])).length) Slot.unset).toArray = ls at hl ⊢
  have hl : lv_has ls 3 [(0, .ref (ad 1))] := hl
  refine lv_iconst (v := 0) hx hb dX0_drawingWheels_0 (by decide) ?_
  refine lv_istore_n (lv' := [(1, .int 0), (0, .ref (ad 1))]) hx hb dX0_drawingWheels_1 rfl hl (by decide) rfl (fun ls hl => ?_)
  refine lv_iconst (v := 0) hx hb dX0_drawingWheels_2 (by decide) ?_
  refine lv_istore_n (lv' := [(2, .int 0), (1, .int 0), (0, .ref (ad 1))]) hx hb dX0_drawingWheels_3 rfl hl (by decide) rfl (fun ls hl => ?_)
  suffices ih_4 : ∀ (fu : Nat) (i : Nat) (H : Heap) (locs : List Loc) (ls : Array Slot), 8 - i < fu → (i ≤ 8) → va_P D vwCl (cw T ad I R) H →  va_S (fun _ => False) s.heap H locs → lv_has ls 3 [(0, .ref (ad 1)), (1, .int (cnS (R 0) i)), (2, .int (nI i))] → W p l e (headSpec wsX0_drawingWheels ({ frames := 0, cells := 0, slots := 0, locals := 0 })).room s m ([.ref (ad 1)] : List Value).toArray below meth c H locs 0 0 (MQ below (RqI (cnS (R 0) 8)) ([.ref (ad 1)] : List Value).toArray s 0 0 (fun _ => False)) (F0 m 4 ls []) from
    ih_4 _ 0 _ _ _ (Nat.lt_succ_self _) (by omega) hP hS (lv_sub hl [2, 1, 0] rfl)
  intro fu
  induction fu with
  | zero => intro i H locs ls hfu; exact absurd hfu (Nat.not_lt_zero _)
  | succ fu ih_4 =>
    intro i H locs ls hfu hi hP hS hl
    refine lv_iload_n hx hb dX0_drawingWheels_4 rfl (lv_at hl 2 rfl) ?_
    refine lv_bipush (v := 8) hx hb dX0_drawingWheels_5 (by decide) ?_
    refine lv_icmp_ge (tgt := 33) hx hb dX0_drawingWheels_7 (by decide) (fun c_7 => ?_) (fun c_7 => ?_)
    · have c_7 : 8 ≤ i := (nI_leI (a := 8) (b := i) (by omega) (by omega)).mp c_7
      obtain rfl : i = 8 := by omega
      refine lv_iload_n hx hb dX0_drawingWheels_33 rfl (lv_at hl 1 rfl) ?_
      exact W.iret (v := (cnS (R 0) 8)) hx hb hr (fun t ht hW => ⟨⟨(cnS (R 0) 8), (), rfl, (rfl), trivial⟩, hS.F ht⟩) hS.2.2 dX0_drawingWheels_34
    · have c_7 : ¬ (8 ≤ i) := fun h => c_7 ((nI_leI (a := 8) (b := i) (by omega) (by omega)).mpr h)
      refine lv_iload_n hx hb dX0_drawingWheels_10 rfl (lv_at hl 1 rfl) ?_
      refine lv_aload_n hx hb dX0_drawingWheels_11 rfl (lv_at hl 0 rfl) ?_
      refine va_get (D := D) (ci := 0) (v := .ref (ad 2)) (C := RX0) (T := TX0) (N := 4) hx hb hts hinX0 hown hK hP 1 cw_1 rfl 0 (by decide) (hts (.fieldLink RX0 9 "SquareGears$Gears" "amplitudes" "[I") (by decide +kernel)) (fun _ h9 => h9) rfl dX0_drawingWheels_12 ?_
      refine lv_iload_n hx hb dX0_drawingWheels_15 rfl (lv_at hl 2 rfl) ?_
      refine cx_iald (k := i) hx hb hK hP 2 1 cw_2 rfl (by omega) (by decide) dX0_drawingWheels_16 ?_
      refine lv_if_eq (tgt := 24) hx hb dX0_drawingWheels_17 (by decide) (fun c_17 => ?_) (fun c_17 => ?_)
      · refine lv_iconst (v := 0) hx hb dX0_drawingWheels_24 (by decide) ?_
        refine lv_iadd hx hb dX0_drawingWheels_25 ?_
        refine cx_top (show ((cnS (R 0) i) + 0) = (cnS (R 0) (i + 1)) from by first | exact cn_t (by assumption) | exact cn_f (by assumption)) ?_
        refine lv_istore_n (lv' := [(1, .int (cnS (R 0) (i + 1))), (0, .ref (ad 1)), (2, .int (nI i))]) hx hb dX0_drawingWheels_26 rfl hl (by decide) rfl (fun ls hl => ?_)
        refine lv_iinc (k := 2) (v := (nI (i + 1))) (lv' := [(2, .int (nI (i + 1))), (1, .int (cnS (R 0) (i + 1))), (0, .ref (ad 1))]) hx hb dX0_drawingWheels_27 hl rfl (nI_add i 1) (by decide) rfl (fun ls hl => ?_)
        refine lv_goto (tgt := 4) hx hb dX0_drawingWheels_30 (by decide) ?_
        exact ih_4 (i + 1) _ _ _ (by omega) (by omega) hP hS (lv_sub hl [2, 1, 0] rfl)
      · refine lv_iconst (v := 1) hx hb dX0_drawingWheels_20 (by decide) ?_
        refine lv_goto (tgt := 25) hx hb dX0_drawingWheels_21 (by decide) ?_
        refine lv_iadd hx hb dX0_drawingWheels_25 ?_
        refine cx_top (show ((cnS (R 0) i) + 1) = (cnS (R 0) (i + 1)) from by first | exact cn_t (by assumption) | exact cn_f (by assumption)) ?_
        refine lv_istore_n (lv' := [(1, .int (cnS (R 0) (i + 1))), (0, .ref (ad 1)), (2, .int (nI i))]) hx hb dX0_drawingWheels_26 rfl hl (by decide) rfl (fun ls hl => ?_)
        refine lv_iinc (k := 2) (v := (nI (i + 1))) (lv' := [(2, .int (nI (i + 1))), (1, .int (cnS (R 0) (i + 1))), (0, .ref (ad 1))]) hx hb dX0_drawingWheels_27 hl rfl (nI_add i 1) (by decide) rfl (fun ls hl => ?_)
        refine lv_goto (tgt := 4) hx hb dX0_drawingWheels_30 (by decide) ?_
        exact ih_4 (i + 1) _ _ _ (by omega) (by omega) hP hS (lv_sub hl [2, 1, 0] rfl)
set_option maxHeartbeats 4000000 in
set_option maxRecDepth 100000 in
theorem c_X0_traceAt (l : Launch) (D : va_G) (T : Nat → ClassId) (ad : Nat → Nat) (I : Nat → Int32) (R : Nat → Nat → Int32) (lm : Nat) (n : Nat) (hm : lm < 256) (hI : I 4 = nI lm) (hn : n < 8) : Met l yX0_traceAt wsX0_traceAt ({ frames := 2, cells := 0, slots := 0, locals := 42 }) (va_Pc [.ref (ad 1), .int (nI n)] (CR D T ad I R)) (RqI (trS (dr (R 0) lm) n 8)) 0 0 (fun _ => False) := by
  refine Met.ofW (cc := cX0_traceAt) (maxL := 4) (ret := (some .int)) (by decide) rfl ?_
  intro p e s m args_ below meth c s₁ B hml hv
  obtain ⟨rfl, hP, hK, hN⟩ := hv
  have hx := B.exec
  have hb := B.bytes
  have hr := B.returns
  have hts := atoms_spec (ws := wsX0_traceAt) B.pre
  have hown : s.vm.findClass RX0 = some m.cls := findClass_of_methodNamed B.named
  have hlocks := B.notSynchronized
  have hS : va_S (fun _ => False) s.heap s.heap [] := va_S.rf
  have hl := lv_entry ([.ref (ad 1), .int (nI n)]) (n := 4) (Nat.le_of_ble_eq_true rfl)
  rw [lg_entry_eq]
  generalize (lg_sl ([.ref (ad 1), .int (nI n)]) ++ List.replicate (4 - (lg_sl ([.ref (ad 1), .int (nI n)])).length) Slot.unset).toArray = ls at hl ⊢
  have hl : lv_has ls 4 [(0, .ref (ad 1)), (1, .int (nI n))] := hl
  refine lv_iconst (v := 0) hx hb dX0_traceAt_0 (by decide) ?_
  refine lv_istore_n (lv' := [(2, .int 0), (0, .ref (ad 1)), (1, .int (nI n))]) hx hb dX0_traceAt_1 rfl hl (by decide) rfl (fun ls hl => ?_)
  refine lv_iconst (v := 0) hx hb dX0_traceAt_2 (by decide) ?_
  refine lv_istore_n (lv' := [(3, .int 0), (2, .int 0), (0, .ref (ad 1)), (1, .int (nI n))]) hx hb dX0_traceAt_3 rfl hl (by decide) rfl (fun ls hl => ?_)
  suffices ih_4 : ∀ (fu : Nat) (i : Nat) (H : Heap) (locs : List Loc) (ls : Array Slot), 8 - i < fu → (i ≤ 8) → va_P D vwCl (cw T ad I R) H →  va_S (fun _ => False) s.heap H locs → lv_has ls 4 [(0, .ref (ad 1)), (1, .int (nI n)), (2, .int (trS (dr (R 0) lm) n i)), (3, .int (nI i))] → W p l e (headSpec wsX0_traceAt ({ frames := 2, cells := 0, slots := 0, locals := 42 })).room s m ([.ref (ad 1), .int (nI n)] : List Value).toArray below meth c H locs 0 0 (MQ below (RqI (trS (dr (R 0) lm) n 8)) ([.ref (ad 1), .int (nI n)] : List Value).toArray s 0 0 (fun _ => False)) (F0 m 4 ls []) from
    ih_4 _ 0 _ _ _ (Nat.lt_succ_self _) (by omega) hP hS (lv_sub hl [2, 3, 1, 0] rfl)
  intro fu
  induction fu with
  | zero => intro i H locs ls hfu; exact absurd hfu (Nat.not_lt_zero _)
  | succ fu ih_4 =>
    intro i H locs ls hfu hi hP hS hl
    refine lv_iload_n hx hb dX0_traceAt_4 rfl (lv_at hl 3 rfl) ?_
    refine lv_bipush (v := 8) hx hb dX0_traceAt_5 (by decide) ?_
    refine lv_icmp_ge (tgt := 30) hx hb dX0_traceAt_7 (by decide) (fun c_7 => ?_) (fun c_7 => ?_)
    · have c_7 : 8 ≤ i := (nI_leI (a := 8) (b := i) (by omega) (by omega)).mp c_7
      obtain rfl : i = 8 := by omega
      refine lv_iload_n hx hb dX0_traceAt_30 rfl (lv_at hl 2 rfl) ?_
      exact W.iret (v := (trS (dr (R 0) lm) n 8)) hx hb hr (fun t ht hW => ⟨⟨(trS (dr (R 0) lm) n 8), (), rfl, (rfl), trivial⟩, hS.F ht⟩) hS.2.2 dX0_traceAt_31
    · have c_7 : ¬ (8 ≤ i) := fun h => c_7 ((nI_leI (a := 8) (b := i) (by omega) (by omega)).mpr h)
      refine lv_iload_n hx hb dX0_traceAt_10 rfl (lv_at hl 2 rfl) ?_
      refine lv_aload_n hx hb dX0_traceAt_11 rfl (lv_at hl 0 rfl) ?_
      refine lv_iload_n hx hb dX0_traceAt_12 rfl (lv_at hl 3 rfl) ?_
      refine cx_ri (va_runV (As := [.int (nI i)]) (rest := [.int (trS (dr (R 0) lm) n i)]) ⟨hx, hb, hml, hown, hts⟩ (c_X0_drawnAmplitude l D T ad I R lm i (hm) (hI) (by omega)) (cwV 1 hts gX0_traceAt_X0_drawnAmplitude rfl rfl rfl (by decide +kernel) ⟨Nat.le_of_ble_eq_true rfl, Nat.le_of_ble_eq_true rfl⟩) ⟨CR.blind, va_recv hK hP (ci := 0) (q0 := 1) rfl cw_1, (CR.pre hP hK hN rfl)⟩ rfl rfl hl.1 rfl (lv_room (Nat.le_of_ble_eq_true rfl)) dX0_traceAt_13 ⟨Nat.le_of_ble_eq_true rfl, Nat.le_of_ble_eq_true rfl⟩) hS hP (fun H locs hP hS => ?_)
      refine lv_iload_n hx hb dX0_traceAt_16 rfl (lv_at hl 3 rfl) ?_
      refine lv_iload_n hx hb dX0_traceAt_17 rfl (lv_at hl 1 rfl) ?_
      refine cx_ri (va_runSN (As := [.int (nI i), .int (nI n)]) (rest := [.int (dr ((R 0)) lm i), .int (trS (dr (R 0) lm) n i)]) ⟨hx, hb, hml, hown, hts⟩ (c_X3_wave l  i n (by omega) (hn)) ⟨va_cnB 2 hts gX0_traceAt_X3_wave_n39 rfl rfl rfl (nwm_X0_39 hN) (hts (.initialized RX3) (by decide +kernel)) (by decide +kernel) ⟨Nat.le_of_ble_eq_true rfl, Nat.le_of_ble_eq_true rfl⟩, (hts (.static yX3_wave) (by decide +kernel)), trivial⟩ ⟨pc_blind, (fun U hU hW => ⟨rfl, trivial⟩)⟩ rfl rfl hl.1 rfl (lv_room (Nat.le_of_ble_eq_true rfl)) dX0_traceAt_18 ⟨Nat.le_of_ble_eq_true rfl, Nat.le_of_ble_eq_true rfl⟩) hS hP (fun H locs hP hS => ?_)
      refine lv_imul hx hb dX0_traceAt_21 ?_
      refine lv_iadd hx hb dX0_traceAt_22 ?_
      refine lv_istore_n (lv' := [(2, .int ((trS (dr (R 0) lm) n i) + ((dr ((R 0)) lm i) * (wv i n)))), (0, .ref (ad 1)), (1, .int (nI n)), (3, .int (nI i))]) hx hb dX0_traceAt_23 rfl hl (by decide) rfl (fun ls hl => ?_)
      refine lv_iinc (k := 3) (v := (nI (i + 1))) (lv' := [(3, .int (nI (i + 1))), (2, .int ((trS (dr (R 0) lm) n i) + ((dr ((R 0)) lm i) * (wv i n)))), (0, .ref (ad 1)), (1, .int (nI n))]) hx hb dX0_traceAt_24 hl rfl (nI_add i 1) (by decide) rfl (fun ls hl => ?_)
      refine lv_goto (tgt := 4) hx hb dX0_traceAt_27 (by decide) ?_
      exact ih_4 (i + 1) _ _ _ (by omega) (by omega) hP hS (lv_sub hl [2, 3, 1, 0] rfl)
set_option maxHeartbeats 4000000 in
set_option maxRecDepth 100000 in
theorem c_X0_differenceAt (l : Launch) (D : va_G) (T : Nat → ClassId) (ad : Nat → Nat) (I : Nat → Int32) (R : Nat → Nat → Int32) (lm : Nat) (n : Nat) (hm : lm < 256) (hI : I 4 = nI lm) (hn : n < 8) : Met l yX0_differenceAt wsX0_differenceAt ({ frames := 3, cells := 0, slots := 0, locals := 65 }) (va_Pc [.ref (ad 1), .int (nI n)] (CR D T ad I R)) (RqI (R 1 n - trS (dr (R 0) lm) n 8)) 0 0 (fun _ => False) := by
  refine Met.ofW (cc := cX0_differenceAt) (maxL := 2) (ret := (some .int)) (by decide) rfl ?_
  intro p e s m args_ below meth c s₁ B hml hv
  obtain ⟨rfl, hP, hK, hN⟩ := hv
  have hx := B.exec
  have hb := B.bytes
  have hr := B.returns
  have hts := atoms_spec (ws := wsX0_differenceAt) B.pre
  have hown : s.vm.findClass RX0 = some m.cls := findClass_of_methodNamed B.named
  have hlocks := B.notSynchronized
  have hinX0 : ∀ w ∈ u_ws RX0 TX0 4, w ∈ wsX0_differenceAt := by decide +kernel
  have hS : va_S (fun _ => False) s.heap s.heap [] := va_S.rf
  have hl := lv_entry ([.ref (ad 1), .int (nI n)]) (n := 2) (Nat.le_of_ble_eq_true rfl)
  rw [lg_entry_eq]
  generalize (lg_sl ([.ref (ad 1), .int (nI n)]) ++ List.replicate (2 - (lg_sl ([.ref (ad 1), .int (nI n)])).length) Slot.unset).toArray = ls at hl ⊢
  have hl : lv_has ls 2 [(0, .ref (ad 1)), (1, .int (nI n))] := hl
  refine lv_aload_n hx hb dX0_differenceAt_0 rfl (lv_at hl 0 rfl) ?_
  refine va_get (D := D) (ci := 0) (v := .ref (ad 3)) (C := RX0) (T := TX0) (N := 4) hx hb hts hinX0 hown hK hP 1 cw_1 rfl 1 (by decide) (hts (.fieldLink RX0 15 "SquareGears$Gears" "pattern" "[I") (by decide +kernel)) (fun _ h9 => h9) rfl dX0_differenceAt_1 ?_
  refine lv_iload_n hx hb dX0_differenceAt_4 rfl (lv_at hl 1 rfl) ?_
  refine cx_iald (k := n) hx hb hK hP 3 1 cw_3 rfl (by omega) (by decide) dX0_differenceAt_5 ?_
  refine lv_aload_n hx hb dX0_differenceAt_6 rfl (lv_at hl 0 rfl) ?_
  refine lv_iload_n hx hb dX0_differenceAt_7 rfl (lv_at hl 1 rfl) ?_
  refine cx_ri (va_runV (As := [.int (nI n)]) (rest := [.int ((R 1) n)]) ⟨hx, hb, hml, hown, hts⟩ (c_X0_traceAt l D T ad I R lm n (hm) (hI) (hn)) (cwV 1 hts gX0_differenceAt_X0_traceAt rfl rfl rfl (by decide +kernel) ⟨Nat.le_of_ble_eq_true rfl, Nat.le_of_ble_eq_true rfl⟩) ⟨CR.blind, va_recv hK hP (ci := 0) (q0 := 1) rfl cw_1, (CR.pre hP hK hN rfl)⟩ rfl rfl hl.1 rfl (lv_room (Nat.le_of_ble_eq_true rfl)) dX0_differenceAt_8 ⟨Nat.le_of_ble_eq_true rfl, Nat.le_of_ble_eq_true rfl⟩) hS hP (fun H locs hP hS => ?_)
  refine lv_isub hx hb dX0_differenceAt_11 ?_
  exact W.iret (v := (((R 1) n) - (trS (dr ((R 0)) lm) n 8))) hx hb hr (fun t ht hW => ⟨⟨(((R 1) n) - (trS (dr ((R 0)) lm) n 8)), (), rfl, (rfl), trivial⟩, hS.F ht⟩) hS.2.2 dX0_differenceAt_12
set_option maxHeartbeats 4000000 in
set_option maxRecDepth 100000 in
theorem c_X0_jumpAt (l : Launch) (D : va_G) (T : Nat → ClassId) (ad : Nat → Nat) (I : Nat → Int32) (R : Nat → Nat → Int32) (lm : Nat) (n : Nat) (hm : lm < 256) (hI : I 4 = nI lm) (hn : n < 8) : Met l yX0_jumpAt wsX0_jumpAt ({ frames := 3, cells := 0, slots := 0, locals := 65 }) (va_Pc [.ref (ad 1), .int (nI n)] (CR D T ad I R)) (RqI (trS (dr (R 0) lm) ((n + 1) % 8) 8 - trS (dr (R 0) lm) n 8)) 0 0 (fun _ => False) := by
  refine Met.ofW (cc := cX0_jumpAt) (maxL := 2) (ret := (some .int)) (by decide) rfl ?_
  intro p e s m args_ below meth c s₁ B hml hv
  obtain ⟨rfl, hP, hK, hN⟩ := hv
  have hx := B.exec
  have hb := B.bytes
  have hr := B.returns
  have hts := atoms_spec (ws := wsX0_jumpAt) B.pre
  have hown : s.vm.findClass RX0 = some m.cls := findClass_of_methodNamed B.named
  have hlocks := B.notSynchronized
  have hS : va_S (fun _ => False) s.heap s.heap [] := va_S.rf
  have hl := lv_entry ([.ref (ad 1), .int (nI n)]) (n := 2) (Nat.le_of_ble_eq_true rfl)
  rw [lg_entry_eq]
  generalize (lg_sl ([.ref (ad 1), .int (nI n)]) ++ List.replicate (2 - (lg_sl ([.ref (ad 1), .int (nI n)])).length) Slot.unset).toArray = ls at hl ⊢
  have hl : lv_has ls 2 [(0, .ref (ad 1)), (1, .int (nI n))] := hl
  refine lv_aload_n hx hb dX0_jumpAt_0 rfl (lv_at hl 0 rfl) ?_
  refine lv_iload_n hx hb dX0_jumpAt_1 rfl (lv_at hl 1 rfl) ?_
  refine lv_iconst (v := 1) hx hb dX0_jumpAt_2 (by decide) ?_
  refine lv_iadd hx hb dX0_jumpAt_3 ?_
  refine cx_top (nI_add n 1) ?_
  refine lv_bipush (v := 8) hx hb dX0_jumpAt_4 (by decide) ?_
  refine lv_irem hx hb dX0_jumpAt_6 (by decide) ?_
  refine cx_top (pk_rem (a := n + 1) (d := 8) (by omega) (by decide) (by decide)) ?_
  refine cx_ri (va_runV (As := [.int (nI ((n + 1) % 8))]) (rest := []) ⟨hx, hb, hml, hown, hts⟩ (c_X0_traceAt l D T ad I R lm ((n + 1) % 8) (hm) (hI) (by omega)) (cwV 1 hts gX0_jumpAt_X0_traceAt rfl rfl rfl (by decide +kernel) ⟨Nat.le_of_ble_eq_true rfl, Nat.le_of_ble_eq_true rfl⟩) ⟨CR.blind, va_recv hK hP (ci := 0) (q0 := 1) rfl cw_1, (CR.pre hP hK hN rfl)⟩ rfl rfl hl.1 rfl (lv_room (Nat.le_of_ble_eq_true rfl)) dX0_jumpAt_7 ⟨Nat.le_of_ble_eq_true rfl, Nat.le_of_ble_eq_true rfl⟩) hS hP (fun H locs hP hS => ?_)
  refine lv_aload_n hx hb dX0_jumpAt_10 rfl (lv_at hl 0 rfl) ?_
  refine lv_iload_n hx hb dX0_jumpAt_11 rfl (lv_at hl 1 rfl) ?_
  refine cx_ri (va_runV (As := [.int (nI n)]) (rest := [.int (trS (dr ((R 0)) lm) ((n + 1) % 8) 8)]) ⟨hx, hb, hml, hown, hts⟩ (c_X0_traceAt l D T ad I R lm n (hm) (hI) (hn)) (cwV 1 hts gX0_jumpAt_X0_traceAt rfl rfl rfl (by decide +kernel) ⟨Nat.le_of_ble_eq_true rfl, Nat.le_of_ble_eq_true rfl⟩) ⟨CR.blind, va_recv hK hP (ci := 0) (q0 := 1) rfl cw_1, (CR.pre hP hK hN rfl)⟩ rfl rfl hl.1 rfl (lv_room (Nat.le_of_ble_eq_true rfl)) dX0_jumpAt_12 ⟨Nat.le_of_ble_eq_true rfl, Nat.le_of_ble_eq_true rfl⟩) hS hP (fun H locs hP hS => ?_)
  refine lv_isub hx hb dX0_jumpAt_15 ?_
  exact W.iret (v := ((trS (dr ((R 0)) lm) ((n + 1) % 8) 8) - (trS (dr ((R 0)) lm) n 8))) hx hb hr (fun t ht hW => ⟨⟨((trS (dr ((R 0)) lm) ((n + 1) % 8) 8) - (trS (dr ((R 0)) lm) n 8)), (), rfl, (rfl), trivial⟩, hS.F ht⟩) hS.2.2 dX0_jumpAt_16
set_option maxHeartbeats 4000000 in
set_option maxRecDepth 100000 in
theorem c_X0_errorWithout (l : Launch) (D : va_G) (T : Nat → ClassId) (ad : Nat → Nat) (I : Nat → Int32) (R : Nat → Nat → Int32) (lm : Nat) (k : Nat) (hm : lm < 256) (hI : I 4 = nI lm) (hk : k < 8) : Met l yX0_errorWithout wsX0_errorWithout ({ frames := 2, cells := 0, slots := 0, locals := 42 }) (va_Pc [.ref (ad 1), .int (nI k)] (CR D T ad I R)) (RqI (8 * dr (R 0) lm k * dr (R 0) lm k)) 0 0 (fun _ => False) := by
  refine Met.ofW (cc := cX0_errorWithout) (maxL := 2) (ret := (some .int)) (by decide) rfl ?_
  intro p e s m args_ below meth c s₁ B hml hv
  obtain ⟨rfl, hP, hK, hN⟩ := hv
  have hx := B.exec
  have hb := B.bytes
  have hr := B.returns
  have hts := atoms_spec (ws := wsX0_errorWithout) B.pre
  have hown : s.vm.findClass RX0 = some m.cls := findClass_of_methodNamed B.named
  have hlocks := B.notSynchronized
  have hS : va_S (fun _ => False) s.heap s.heap [] := va_S.rf
  have hl := lv_entry ([.ref (ad 1), .int (nI k)]) (n := 2) (Nat.le_of_ble_eq_true rfl)
  rw [lg_entry_eq]
  generalize (lg_sl ([.ref (ad 1), .int (nI k)]) ++ List.replicate (2 - (lg_sl ([.ref (ad 1), .int (nI k)])).length) Slot.unset).toArray = ls at hl ⊢
  have hl : lv_has ls 2 [(0, .ref (ad 1)), (1, .int (nI k))] := hl
  refine lv_bipush (v := 8) hx hb dX0_errorWithout_0 (by decide) ?_
  refine lv_aload_n hx hb dX0_errorWithout_2 rfl (lv_at hl 0 rfl) ?_
  refine lv_iload_n hx hb dX0_errorWithout_3 rfl (lv_at hl 1 rfl) ?_
  refine cx_ri (va_runV (As := [.int (nI k)]) (rest := [.int 8]) ⟨hx, hb, hml, hown, hts⟩ (c_X0_drawnAmplitude l D T ad I R lm k (hm) (hI) (hk)) (cwV 1 hts gX0_errorWithout_X0_drawnAmplitude rfl rfl rfl (by decide +kernel) ⟨Nat.le_of_ble_eq_true rfl, Nat.le_of_ble_eq_true rfl⟩) ⟨CR.blind, va_recv hK hP (ci := 0) (q0 := 1) rfl cw_1, (CR.pre hP hK hN rfl)⟩ rfl rfl hl.1 rfl (lv_room (Nat.le_of_ble_eq_true rfl)) dX0_errorWithout_4 ⟨Nat.le_of_ble_eq_true rfl, Nat.le_of_ble_eq_true rfl⟩) hS hP (fun H locs hP hS => ?_)
  refine lv_imul hx hb dX0_errorWithout_7 ?_
  refine lv_aload_n hx hb dX0_errorWithout_8 rfl (lv_at hl 0 rfl) ?_
  refine lv_iload_n hx hb dX0_errorWithout_9 rfl (lv_at hl 1 rfl) ?_
  refine cx_ri (va_runV (As := [.int (nI k)]) (rest := [.int (8 * (dr ((R 0)) lm k))]) ⟨hx, hb, hml, hown, hts⟩ (c_X0_drawnAmplitude l D T ad I R lm k (hm) (hI) (hk)) (cwV 1 hts gX0_errorWithout_X0_drawnAmplitude rfl rfl rfl (by decide +kernel) ⟨Nat.le_of_ble_eq_true rfl, Nat.le_of_ble_eq_true rfl⟩) ⟨CR.blind, va_recv hK hP (ci := 0) (q0 := 1) rfl cw_1, (CR.pre hP hK hN rfl)⟩ rfl rfl hl.1 rfl (lv_room (Nat.le_of_ble_eq_true rfl)) dX0_errorWithout_10 ⟨Nat.le_of_ble_eq_true rfl, Nat.le_of_ble_eq_true rfl⟩) hS hP (fun H locs hP hS => ?_)
  refine lv_imul hx hb dX0_errorWithout_13 ?_
  exact W.iret (v := ((8 * (dr ((R 0)) lm k)) * (dr ((R 0)) lm k))) hx hb hr (fun t ht hW => ⟨⟨((8 * (dr ((R 0)) lm k)) * (dr ((R 0)) lm k)), (), rfl, (rfl), trivial⟩, hS.F ht⟩) hS.2.2 dX0_errorWithout_14
set_option maxHeartbeats 4000000 in
set_option maxRecDepth 100000 in
theorem c_X3_isOutside (l : Launch) (x : Int32) (a : Int32) (b : Int32) : Met l yX3_isOutside wsX3_isOutside ({ frames := 0, cells := 0, slots := 0, locals := 0 }) (va_Pc [.int x, .int a, .int b] (fun _ => True)) (RqI (outI x a b)) 0 0 (fun _ => False) := by
  refine Met.ofW (cc := cX3_isOutside) (maxL := 3) (ret := (some .boolean)) (by decide) rfl ?_
  intro p e s m args_ below meth c s₁ B hml hv
  obtain ⟨rfl, -⟩ := hv
  have hP : va_P ((fun _ => 0), (fun _ _ => 0)) [] [] s.heap := fun k q h => by simp at h
  have hx := B.exec
  have hb := B.bytes
  have hr := B.returns
  have hts := atoms_spec (ws := wsX3_isOutside) B.pre
  have hown : s.vm.findClass RX3 = some m.cls := findClass_of_methodNamed B.named
  have hlocks := B.notSynchronized
  have hS : va_S (fun _ => False) s.heap s.heap [] := va_S.rf
  have hl := lv_entry ([.int x, .int a, .int b]) (n := 3) (Nat.le_of_ble_eq_true rfl)
  rw [lg_entry_eq]
  generalize (lg_sl ([.int x, .int a, .int b]) ++ List.replicate (3 - (lg_sl ([.int x, .int a, .int b])).length) Slot.unset).toArray = ls at hl ⊢
  have hl : lv_has ls 3 [(0, .int x), (1, .int a), (2, .int b)] := hl
  refine lv_iload_n hx hb dX3_isOutside_0 rfl (lv_at hl 0 rfl) ?_
  refine lv_iload_n hx hb dX3_isOutside_1 rfl (lv_at hl 1 rfl) ?_
  refine lv_icmp_lt (tgt := 10) hx hb dX3_isOutside_2 (by decide) (fun c_2 => ?_) (fun c_2 => ?_)
  · refine lv_iconst (v := 1) hx hb dX3_isOutside_10 (by decide) ?_
    refine lv_goto (tgt := 15) hx hb dX3_isOutside_11 (by decide) ?_
    exact W.zret (v := 1) hx hb hr (rfl) (fun t ht hW => ⟨⟨1, (), rfl, (by simp [outI, *]), trivial⟩, hS.F ht⟩) hS.2.2 dX3_isOutside_15
  · refine lv_iload_n hx hb dX3_isOutside_5 rfl (lv_at hl 0 rfl) ?_
    refine lv_iload_n hx hb dX3_isOutside_6 rfl (lv_at hl 2 rfl) ?_
    refine lv_icmp_le (tgt := 14) hx hb dX3_isOutside_7 (by decide) (fun c_7 => ?_) (fun c_7 => ?_)
    · refine lv_iconst (v := 0) hx hb dX3_isOutside_14 (by decide) ?_
      exact W.zret (v := 0) hx hb hr (rfl) (fun t ht hW => ⟨⟨0, (), rfl, (by simp [outI, *]), trivial⟩, hS.F ht⟩) hS.2.2 dX3_isOutside_15
    · refine lv_iconst (v := 1) hx hb dX3_isOutside_10 (by decide) ?_
      refine lv_goto (tgt := 15) hx hb dX3_isOutside_11 (by decide) ?_
      exact W.zret (v := 1) hx hb hr (rfl) (fun t ht hW => ⟨⟨1, (), rfl, (by simp [outI, *]), trivial⟩, hS.F ht⟩) hS.2.2 dX3_isOutside_15
set_option maxHeartbeats 4000000 in
set_option maxRecDepth 100000 in
theorem c_X3_isNoPlace (l : Launch) (x : Int32) : Met l yX3_isNoPlace wsX3_isNoPlace ({ frames := 1, cells := 0, slots := 0, locals := 22 }) (va_Pc [.int x] (fun _ => True)) (RqI (outI x 0 7)) 0 0 (fun _ => False) := by
  refine Met.ofW (cc := cX3_isNoPlace) (maxL := 1) (ret := (some .boolean)) (by decide) rfl ?_
  intro p e s m args_ below meth c s₁ B hml hv
  obtain ⟨rfl, -⟩ := hv
  have hP : va_P ((fun _ => 0), (fun _ _ => 0)) [] [] s.heap := fun k q h => by simp at h
  have hx := B.exec
  have hb := B.bytes
  have hr := B.returns
  have hts := atoms_spec (ws := wsX3_isNoPlace) B.pre
  have hown : s.vm.findClass RX3 = some m.cls := findClass_of_methodNamed B.named
  have hlocks := B.notSynchronized
  have hS : va_S (fun _ => False) s.heap s.heap [] := va_S.rf
  have hl := lv_entry ([.int x]) (n := 1) (Nat.le_of_ble_eq_true rfl)
  rw [lg_entry_eq]
  generalize (lg_sl ([.int x]) ++ List.replicate (1 - (lg_sl ([.int x])).length) Slot.unset).toArray = ls at hl ⊢
  have hl : lv_has ls 1 [(0, .int x)] := hl
  refine lv_iload_n hx hb dX3_isNoPlace_0 rfl (lv_at hl 0 rfl) ?_
  refine lv_iconst (v := 0) hx hb dX3_isNoPlace_1 (by decide) ?_
  refine lv_bipush (v := 7) hx hb dX3_isNoPlace_2 (by decide) ?_
  refine cx_ri (va_runS (As := [.int x, .int 0, .int 7]) (rest := []) ⟨hx, hb, hml, hown, hts⟩ (c_X3_isOutside l  x 0 7) (va_cwS 3 hts gX3_isNoPlace_X3_isOutside rfl rfl rfl (by decide +kernel) ⟨Nat.le_of_ble_eq_true rfl, Nat.le_of_ble_eq_true rfl⟩) ⟨pc_blind, (fun U hU hW => ⟨rfl, trivial⟩)⟩ rfl rfl hl.1 rfl (lv_room (Nat.le_of_ble_eq_true rfl)) dX3_isNoPlace_4 ⟨Nat.le_of_ble_eq_true rfl, Nat.le_of_ble_eq_true rfl⟩) hS hP (fun H locs hP hS => ?_)
  exact W.zret (v := (outI x 0 7)) hx hb hr (nar01 (out_01 _ _ _)) (fun t ht hW => ⟨⟨(outI x 0 7), (), rfl, (rfl), trivial⟩, hS.F ht⟩) hS.2.2 dX3_isNoPlace_7
set_option maxHeartbeats 4000000 in
set_option maxRecDepth 100000 in
theorem c_J9_floorDiv_7cf53 (l : Launch) (x : Int32) : Met l yJ9_floorDiv_7cf53 wsJ9_floorDiv_7cf53 ({ frames := 0, cells := 0, slots := 0, locals := 0 }) (va_Pc [.int x, .int 8] (fun _ => True)) (RqI (x >>> (3 : Int32))) 0 0 (fun _ => False) := by
  refine metF_ofW (cc := cJ9_floorDiv_7cf53) (maxL := 3) (ret := (some .int)) (by decide +kernel) rfl ?_
  intro p e s m args_ below meth c s₁ B hml hv
  obtain ⟨rfl, -⟩ := hv
  have hP : va_P ((fun _ => 0), (fun _ _ => 0)) [] [] s.heap := fun k q h => by simp at h
  have hx := B.exec
  have hb := B.bytes
  have hr := B.returns
  have hts := atoms_spec (ws := wsJ9_floorDiv_7cf53) B.pre
  have hown : s.vm.findClass RJ9 = some m.cls := findClass_of_methodNamed B.named
  have hlocks := B.notSynchronized
  have hS : va_S (fun _ => False) s.heap s.heap [] := va_S.rf
  have hl := lv_entry ([.int x, .int 8]) (n := 3) (Nat.le_of_ble_eq_true rfl)
  rw [lg_entry_eq]
  generalize (lg_sl ([.int x, .int 8]) ++ List.replicate (3 - (lg_sl ([.int x, .int 8])).length) Slot.unset).toArray = ls at hl ⊢
  have hl : lv_has ls 3 [(0, .int x), (1, .int 8)] := hl
  refine lv_iload_n hx hb dJ9_floorDiv_7cf53_0 rfl (lv_at hl 0 rfl) ?_
  refine lv_iload_n hx hb dJ9_floorDiv_7cf53_1 rfl (lv_at hl 1 rfl) ?_
  refine lv_idiv hx hb dJ9_floorDiv_7cf53_2 (by decide) ?_
  refine lv_istore_n (lv' := [(2, .int (x / 8)), (0, .int x), (1, .int 8)]) hx hb dJ9_floorDiv_7cf53_3 rfl hl (by decide) rfl (fun ls hl => ?_)
  refine lv_iload_n hx hb dJ9_floorDiv_7cf53_4 rfl (lv_at hl 1 rfl) ?_
  refine lv_iload_n hx hb dJ9_floorDiv_7cf53_5 rfl (lv_at hl 2 rfl) ?_
  refine lv_ixor hx hb dJ9_floorDiv_7cf53_6 ?_
  refine lv_if_ge (tgt := 21) hx hb dJ9_floorDiv_7cf53_7 (by decide) (fun c_7 => ?_) (fun c_7 => ?_)
  · refine lv_iload_n hx hb dJ9_floorDiv_7cf53_21 rfl (lv_at hl 0 rfl) ?_
    exact W.iret (v := (x / 8)) hx hb hr (fun t ht hW => ⟨⟨(x / 8), (), rfl, (by first | exact fd_a (by assumption) | exact fd_b (by assumption) | exact fd_c (by assumption) (by assumption)), trivial⟩, hS.F ht⟩) hS.2.2 dJ9_floorDiv_7cf53_22
  · refine lv_iload_n hx hb dJ9_floorDiv_7cf53_10 rfl (lv_at hl 0 rfl) ?_
    refine lv_iload_n hx hb dJ9_floorDiv_7cf53_11 rfl (lv_at hl 2 rfl) ?_
    refine lv_imul hx hb dJ9_floorDiv_7cf53_12 ?_
    refine lv_iload_n hx hb dJ9_floorDiv_7cf53_13 rfl (lv_at hl 1 rfl) ?_
    refine lv_icmp_eq (tgt := 21) hx hb dJ9_floorDiv_7cf53_14 (by decide) (fun c_14 => ?_) (fun c_14 => ?_)
    · refine lv_iload_n hx hb dJ9_floorDiv_7cf53_21 rfl (lv_at hl 0 rfl) ?_
      exact W.iret (v := (x / 8)) hx hb hr (fun t ht hW => ⟨⟨(x / 8), (), rfl, (by first | exact fd_a (by assumption) | exact fd_b (by assumption) | exact fd_c (by assumption) (by assumption)), trivial⟩, hS.F ht⟩) hS.2.2 dJ9_floorDiv_7cf53_22
    · refine lv_iload_n hx hb dJ9_floorDiv_7cf53_17 rfl (lv_at hl 0 rfl) ?_
      refine lv_iconst (v := 1) hx hb dJ9_floorDiv_7cf53_18 (by decide) ?_
      refine lv_isub hx hb dJ9_floorDiv_7cf53_19 ?_
      exact W.iret (v := ((x / 8) - 1)) hx hb hr (fun t ht hW => ⟨⟨((x / 8) - 1), (), rfl, (by first | exact fd_a (by assumption) | exact fd_b (by assumption) | exact fd_c (by assumption) (by assumption)), trivial⟩, hS.F ht⟩) hS.2.2 dJ9_floorDiv_7cf53_20
set_option maxHeartbeats 4000000 in
set_option maxRecDepth 100000 in
theorem c_X0_patternAmplitude (l : Launch) (D : va_G) (T : Nat → ClassId) (ad : Nat → Nat) (I : Nat → Int32) (R : Nat → Nat → Int32) (k : Nat) (hk : k < 8) : Met l yX0_patternAmplitude wsX0_patternAmplitude ({ frames := 2, cells := 0, slots := 0, locals := 41 }) (va_Pc [.ref (ad 1), .int (nI k)] (CR D T ad I R)) (RqI (psS (R 1) k 8 >>> (3 : Int32))) 0 0 (fun _ => False) := by
  refine Met.ofW (cc := cX0_patternAmplitude) (maxL := 4) (ret := (some .int)) (by decide) rfl ?_
  intro p e s m args_ below meth c s₁ B hml hv
  obtain ⟨rfl, hP, hK, hN⟩ := hv
  have hx := B.exec
  have hb := B.bytes
  have hr := B.returns
  have hts := atoms_spec (ws := wsX0_patternAmplitude) B.pre
  have hown : s.vm.findClass RX0 = some m.cls := findClass_of_methodNamed B.named
  have hlocks := B.notSynchronized
  have hinX0 : ∀ w ∈ u_ws RX0 TX0 4, w ∈ wsX0_patternAmplitude := by decide +kernel
  have hS : va_S (fun _ => False) s.heap s.heap [] := va_S.rf
  have hl := lv_entry ([.ref (ad 1), .int (nI k)]) (n := 4) (Nat.le_of_ble_eq_true rfl)
  rw [lg_entry_eq]
  generalize (lg_sl ([.ref (ad 1), .int (nI k)]) ++ List.replicate (4 - (lg_sl ([.ref (ad 1), .int (nI k)])).length) Slot.unset).toArray = ls at hl ⊢
  have hl : lv_has ls 4 [(0, .ref (ad 1)), (1, .int (nI k))] := hl
  refine lv_iconst (v := 0) hx hb dX0_patternAmplitude_0 (by decide) ?_
  refine lv_istore_n (lv' := [(2, .int 0), (0, .ref (ad 1)), (1, .int (nI k))]) hx hb dX0_patternAmplitude_1 rfl hl (by decide) rfl (fun ls hl => ?_)
  refine lv_iconst (v := 0) hx hb dX0_patternAmplitude_2 (by decide) ?_
  refine lv_istore_n (lv' := [(3, .int 0), (2, .int 0), (0, .ref (ad 1)), (1, .int (nI k))]) hx hb dX0_patternAmplitude_3 rfl hl (by decide) rfl (fun ls hl => ?_)
  suffices ih_4 : ∀ (fu : Nat) (i : Nat) (H : Heap) (locs : List Loc) (ls : Array Slot), 8 - i < fu → (i ≤ 8) → va_P D vwCl (cw T ad I R) H →  va_S (fun _ => False) s.heap H locs → lv_has ls 4 [(0, .ref (ad 1)), (1, .int (nI k)), (2, .int (psS (R 1) k i)), (3, .int (nI i))] → W p l e (headSpec wsX0_patternAmplitude ({ frames := 2, cells := 0, slots := 0, locals := 41 })).room s m ([.ref (ad 1), .int (nI k)] : List Value).toArray below meth c H locs 0 0 (MQ below (RqI (psS (R 1) k 8 >>> (3 : Int32))) ([.ref (ad 1), .int (nI k)] : List Value).toArray s 0 0 (fun _ => False)) (F0 m 4 ls []) from
    ih_4 _ 0 _ _ _ (Nat.lt_succ_self _) (by omega) hP hS (lv_sub hl [2, 3, 1, 0] rfl)
  intro fu
  induction fu with
  | zero => intro i H locs ls hfu; exact absurd hfu (Nat.not_lt_zero _)
  | succ fu ih_4 =>
    intro i H locs ls hfu hi hP hS hl
    refine lv_iload_n hx hb dX0_patternAmplitude_4 rfl (lv_at hl 3 rfl) ?_
    refine lv_bipush (v := 8) hx hb dX0_patternAmplitude_5 (by decide) ?_
    refine lv_icmp_ge (tgt := 31) hx hb dX0_patternAmplitude_7 (by decide) (fun c_7 => ?_) (fun c_7 => ?_)
    · have c_7 : 8 ≤ i := (nI_leI (a := 8) (b := i) (by omega) (by omega)).mp c_7
      obtain rfl : i = 8 := by omega
      refine lv_iload_n hx hb dX0_patternAmplitude_31 rfl (lv_at hl 2 rfl) ?_
      refine lv_bipush (v := 8) hx hb dX0_patternAmplitude_32 (by decide) ?_
      refine cx_ri (va_runS (As := [.int (psS (R 1) k 8), .int 8]) (rest := []) ⟨hx, hb, hml, hown, hts⟩ (c_J9_floorDiv_7cf53 l  (psS (R 1) k 8)) (va_cwS 2 hts gX0_patternAmplitude_J9_floorDiv_7cf53 rfl rfl rfl (by decide +kernel) ⟨Nat.le_of_ble_eq_true rfl, Nat.le_of_ble_eq_true rfl⟩) ⟨pc_blind, (fun U hU hW => ⟨rfl, trivial⟩)⟩ rfl rfl hl.1 rfl (lv_room (Nat.le_of_ble_eq_true rfl)) dX0_patternAmplitude_34 ⟨Nat.le_of_ble_eq_true rfl, Nat.le_of_ble_eq_true rfl⟩) hS hP (fun H locs hP hS => ?_)
      exact W.iret (v := ((psS (R 1) k 8) >>> (3 : Int32))) hx hb hr (fun t ht hW => ⟨⟨((psS (R 1) k 8) >>> (3 : Int32)), (), rfl, (rfl), trivial⟩, hS.F ht⟩) hS.2.2 dX0_patternAmplitude_37
    · have c_7 : ¬ (8 ≤ i) := fun h => c_7 ((nI_leI (a := 8) (b := i) (by omega) (by omega)).mpr h)
      refine lv_iload_n hx hb dX0_patternAmplitude_10 rfl (lv_at hl 2 rfl) ?_
      refine lv_aload_n hx hb dX0_patternAmplitude_11 rfl (lv_at hl 0 rfl) ?_
      refine va_get (D := D) (ci := 0) (v := .ref (ad 3)) (C := RX0) (T := TX0) (N := 4) hx hb hts hinX0 hown hK hP 1 cw_1 rfl 1 (by decide) (hts (.fieldLink RX0 15 "SquareGears$Gears" "pattern" "[I") (by decide +kernel)) (fun _ h9 => h9) rfl dX0_patternAmplitude_12 ?_
      refine lv_iload_n hx hb dX0_patternAmplitude_15 rfl (lv_at hl 3 rfl) ?_
      refine cx_iald (k := i) hx hb hK hP 3 1 cw_3 rfl (by omega) (by decide) dX0_patternAmplitude_16 ?_
      refine lv_iload_n hx hb dX0_patternAmplitude_17 rfl (lv_at hl 1 rfl) ?_
      refine lv_iload_n hx hb dX0_patternAmplitude_18 rfl (lv_at hl 3 rfl) ?_
      refine cx_ri (va_runSN (As := [.int (nI k), .int (nI i)]) (rest := [.int ((R 1) i), .int (psS (R 1) k i)]) ⟨hx, hb, hml, hown, hts⟩ (c_X3_wave l  k i (hk) (by omega)) ⟨va_cnB 2 hts gX0_patternAmplitude_X3_wave_n39 rfl rfl rfl (nwm_X0_39 hN) (hts (.initialized RX3) (by decide +kernel)) (by decide +kernel) ⟨Nat.le_of_ble_eq_true rfl, Nat.le_of_ble_eq_true rfl⟩, (hts (.static yX3_wave) (by decide +kernel)), trivial⟩ ⟨pc_blind, (fun U hU hW => ⟨rfl, trivial⟩)⟩ rfl rfl hl.1 rfl (lv_room (Nat.le_of_ble_eq_true rfl)) dX0_patternAmplitude_19 ⟨Nat.le_of_ble_eq_true rfl, Nat.le_of_ble_eq_true rfl⟩) hS hP (fun H locs hP hS => ?_)
      refine lv_imul hx hb dX0_patternAmplitude_22 ?_
      refine lv_iadd hx hb dX0_patternAmplitude_23 ?_
      refine lv_istore_n (lv' := [(2, .int ((psS (R 1) k i) + (((R 1) i) * (wv k i)))), (0, .ref (ad 1)), (1, .int (nI k)), (3, .int (nI i))]) hx hb dX0_patternAmplitude_24 rfl hl (by decide) rfl (fun ls hl => ?_)
      refine lv_iinc (k := 3) (v := (nI (i + 1))) (lv' := [(3, .int (nI (i + 1))), (2, .int ((psS (R 1) k i) + (((R 1) i) * (wv k i)))), (0, .ref (ad 1)), (1, .int (nI k))]) hx hb dX0_patternAmplitude_25 hl rfl (nI_add i 1) (by decide) rfl (fun ls hl => ?_)
      refine lv_goto (tgt := 4) hx hb dX0_patternAmplitude_28 (by decide) ?_
      exact ih_4 (i + 1) _ _ _ (by omega) (by omega) hP hS (lv_sub hl [2, 3, 1, 0] rfl)

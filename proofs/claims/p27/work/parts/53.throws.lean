set_option maxHeartbeats 4000000 in
set_option maxRecDepth 100000 in
theorem c_X3_set_t1 (l : Launch) (D : va_G) (T : Nat → ClassId) (ad : Nat → Nat) (I : Nat → Int32) (R : Nat → Nat → Int32) (hlt : l.stackTraces = false) (v : Int32) (x : Int32) (h1 : outI v 0 7 = 1) : vx_Met l yX3_set wsX3_set ({ frames := 6, cells := 1, slots := 6, locals := 82 }) (va_Pc [.ref (ad 0), .int v, .int x] (XR D T ad I R)) NoR (ThX "java/lang/IndexOutOfBoundsException") 1 6 (fun _ => False) := by
  refine vx_ofW (cc := cX3_set) (maxL := 4) (ret := (some .int)) (by decide) rfl ?_
  intro p e s m args_ below meth c s₁ B hml htb hv
  obtain ⟨rfl, ⟨hP, hK, hN⟩, hXU, hXZ⟩ := hv
  have hx := B.exec
  have hb := B.bytes
  have hr := B.returns
  have hts := atoms_spec (ws := wsX3_set) B.pre
  have hown : s.vm.findClass RX3 = some m.cls := findClass_of_methodNamed B.named
  have hlocks := B.notSynchronized
  have hS : va_S (fun _ => False) s.heap s.heap [] := va_S.rf
  have hl := lv_entry ([.ref (ad 0), .int v, .int x]) (n := 4) (Nat.le_of_ble_eq_true rfl)
  rw [lg_entry_eq]
  generalize (lg_sl ([.ref (ad 0), .int v, .int x]) ++ List.replicate (4 - (lg_sl ([.ref (ad 0), .int v, .int x])).length) Slot.unset).toArray = ls at hl ⊢
  have hl : lv_has ls 4 [(0, .ref (ad 0)), (1, .int v), (2, .int x)] := hl
  refine lv_iload_n hx hb dX3_set_0 rfl (lv_at hl 1 rfl) ?_
  refine cx_ri (va_runS (As := [.int v]) (rest := []) ⟨hx, hb, hml, hown, hts⟩ (c_X3_isNoPlace l  v) (va_cwS 1 hts gX3_set_X3_isNoPlace rfl rfl rfl (by decide +kernel) ⟨Nat.le_of_ble_eq_true rfl, Nat.le_of_ble_eq_true rfl⟩) ⟨pc_blind, (fun U hU hW => ⟨rfl, trivial⟩)⟩ rfl rfl hl.1 rfl (lv_room (Nat.le_of_ble_eq_true rfl)) dX3_set_1 ⟨Nat.le_of_ble_eq_true rfl, Nat.le_of_ble_eq_true rfl⟩) hS hP (fun H locs hP hS => ?_)
  refine cx_top (show (outI v 0 7) = 1 from h1) ?_
  refine lv_if_eq (tgt := 17) hx hb dX3_set_4 (by decide) (fun c_4 => absurd c_4 (by decide)) (fun c_4 => ?_)
  obtain ⟨sa, hsa⟩ := hXU.2 (48, "there is no such wheel") (List.mem_of_getElem? (i := 0) rfl)
  have hat : ∀ w ∈ vx_atS RX3 50 "java/lang/IndexOutOfBoundsException" ["java/lang/RuntimeException", "java/lang/Exception"], w.before _ s = true := vx_hat (B := thW) (fun w h9 => hts w (List.mem_cons_of_mem _ (List.mem_append_left _ (List.mem_append_right _ h9)))) (by decide +kernel) (fun w hw => va_Nw.use (thW_tab w hw) (hXU.1 w hw))
  exact vx_throwS (names := ["java/lang/RuntimeException", "java/lang/Exception"]) (A := fun _ => False) hx hb hlt hown (by decide +kernel) (by decide +kernel) (hts (.classLink RX3 46 "java/lang/IndexOutOfBoundsException") (by decide +kernel)) (hts (.initialized "java/lang/IndexOutOfBoundsException") (by decide +kernel)) hsa hat (by decide +kernel) hXZ.1 hXZ.2 hS (hl.1.trans hml.symm) dX3_set_7 dX3_set_10 dX3_set_11 dX3_set_13 dX3_set_16 (fun x h9 => (htb x h9).elim) (Nat.le_of_ble_eq_true rfl) (Nat.le_of_ble_eq_true rfl) (Nat.le_of_ble_eq_true rfl) (Nat.le_of_ble_eq_true rfl) hlocks (fun t ha hz hk9 => thx_of (And.intro (Nat.le_trans hS.1 hz) (fun q h1 h2 => (hk9 q (Nat.lt_of_lt_of_le h1 hS.1)).trans (hS.2.1 q h1 h2)))) (fun z hz => hS.2.2 z hz) (Nat.le_of_ble_eq_true rfl) (Nat.le_of_ble_eq_true rfl)
set_option maxHeartbeats 4000000 in
set_option maxRecDepth 100000 in
theorem c_X3_set_t2 (l : Launch) (D : va_G) (T : Nat → ClassId) (ad : Nat → Nat) (I : Nat → Int32) (R : Nat → Nat → Int32) (hlt : l.stackTraces = false) (k : Nat) (x : Int32) (hk : k < 8) (h1 : outI x (-99) 99 = 1) : vx_Met l yX3_set wsX3_set ({ frames := 6, cells := 1, slots := 6, locals := 82 }) (va_Pc [.ref (ad 0), .int (nI k), .int x] (XR D T ad I R)) NoR (ThX "java/lang/IllegalArgumentException") 1 6 (fun _ => False) := by
  refine vx_ofW (cc := cX3_set) (maxL := 4) (ret := (some .int)) (by decide) rfl ?_
  intro p e s m args_ below meth c s₁ B hml htb hv
  obtain ⟨rfl, ⟨hP, hK, hN⟩, hXU, hXZ⟩ := hv
  have hx := B.exec
  have hb := B.bytes
  have hr := B.returns
  have hts := atoms_spec (ws := wsX3_set) B.pre
  have hown : s.vm.findClass RX3 = some m.cls := findClass_of_methodNamed B.named
  have hlocks := B.notSynchronized
  have hS : va_S (fun _ => False) s.heap s.heap [] := va_S.rf
  have hl := lv_entry ([.ref (ad 0), .int (nI k), .int x]) (n := 4) (Nat.le_of_ble_eq_true rfl)
  rw [lg_entry_eq]
  generalize (lg_sl ([.ref (ad 0), .int (nI k), .int x]) ++ List.replicate (4 - (lg_sl ([.ref (ad 0), .int (nI k), .int x])).length) Slot.unset).toArray = ls at hl ⊢
  have hl : lv_has ls 4 [(0, .ref (ad 0)), (1, .int (nI k)), (2, .int x)] := hl
  refine lv_iload_n hx hb dX3_set_0 rfl (lv_at hl 1 rfl) ?_
  refine cx_ri (va_runS (As := [.int (nI k)]) (rest := []) ⟨hx, hb, hml, hown, hts⟩ (c_X3_isNoPlace l  (nI k)) (va_cwS 1 hts gX3_set_X3_isNoPlace rfl rfl rfl (by decide +kernel) ⟨Nat.le_of_ble_eq_true rfl, Nat.le_of_ble_eq_true rfl⟩) ⟨pc_blind, (fun U hU hW => ⟨rfl, trivial⟩)⟩ rfl rfl hl.1 rfl (lv_room (Nat.le_of_ble_eq_true rfl)) dX3_set_1 ⟨Nat.le_of_ble_eq_true rfl, Nat.le_of_ble_eq_true rfl⟩) hS hP (fun H locs hP hS => ?_)
  refine cx_top (show (outI (nI k) 0 7) = 0 from out_8 hk) ?_
  refine lv_if_eq (tgt := 17) hx hb dX3_set_4 (by decide) (fun c_4 => ?_) (fun c_4 => absurd c_4 (by decide))
  refine lv_iload_n hx hb dX3_set_17 rfl (lv_at hl 2 rfl) ?_
  refine lv_bipush (v := (-99)) hx hb dX3_set_18 (by decide) ?_
  refine lv_bipush (v := 99) hx hb dX3_set_20 (by decide) ?_
  refine cx_ri (va_runS (As := [.int x, .int (-99), .int 99]) (rest := []) ⟨hx, hb, hml, hown, hts⟩ (c_X3_isOutside l  x (-99) 99) (va_cwS 3 hts gX3_set_X3_isOutside rfl rfl rfl (by decide +kernel) ⟨Nat.le_of_ble_eq_true rfl, Nat.le_of_ble_eq_true rfl⟩) ⟨pc_blind, (fun U hU hW => ⟨rfl, trivial⟩)⟩ rfl rfl hl.1 rfl (lv_room (Nat.le_of_ble_eq_true rfl)) dX3_set_22 ⟨Nat.le_of_ble_eq_true rfl, Nat.le_of_ble_eq_true rfl⟩) hS hP (fun H locs hP hS => ?_)
  refine cx_top (show (outI x (-99) 99) = 1 from h1) ?_
  refine lv_if_eq (tgt := 38) hx hb dX3_set_25 (by decide) (fun c_25 => absurd c_25 (by decide)) (fun c_25 => ?_)
  obtain ⟨sa, hsa⟩ := hXU.2 (59, "the amplitude is out of range") (List.mem_of_getElem? (i := 1) rfl)
  have hat : ∀ w ∈ vx_atS RX3 61 "java/lang/IllegalArgumentException" ["java/lang/RuntimeException", "java/lang/Exception"], w.before _ s = true := vx_hat (B := thW) (fun w h9 => hts w (List.mem_cons_of_mem _ (List.mem_append_right _ h9))) (by decide +kernel) (fun w hw => va_Nw.use (thW_tab w hw) (hXU.1 w hw))
  exact vx_throwS (names := ["java/lang/RuntimeException", "java/lang/Exception"]) (A := fun _ => False) hx hb hlt hown (by decide +kernel) (by decide +kernel) (hts (.classLink RX3 57 "java/lang/IllegalArgumentException") (by decide +kernel)) (hts (.initialized "java/lang/IllegalArgumentException") (by decide +kernel)) hsa hat (by decide +kernel) hXZ.1 hXZ.2 hS (hl.1.trans hml.symm) dX3_set_28 dX3_set_31 dX3_set_32 dX3_set_34 dX3_set_37 (fun x h9 => (htb x h9).elim) (Nat.le_of_ble_eq_true rfl) (Nat.le_of_ble_eq_true rfl) (Nat.le_of_ble_eq_true rfl) (Nat.le_of_ble_eq_true rfl) hlocks (fun t ha hz hk9 => thx_of (And.intro (Nat.le_trans hS.1 hz) (fun q h1 h2 => (hk9 q (Nat.lt_of_lt_of_le h1 hS.1)).trans (hS.2.1 q h1 h2)))) (fun z hz => hS.2.2 z hz) (Nat.le_of_ble_eq_true rfl) (Nat.le_of_ble_eq_true rfl)
set_option maxHeartbeats 4000000 in
set_option maxRecDepth 100000 in
theorem c_X3_point_t1 (l : Launch) (D : va_G) (T : Nat → ClassId) (ad : Nat → Nat) (I : Nat → Int32) (R : Nat → Nat → Int32) (hlt : l.stackTraces = false) (v : Int32) (x : Int32) (h1 : outI v 0 7 = 1) : vx_Met l yX3_point wsX3_point ({ frames := 6, cells := 1, slots := 6, locals := 82 }) (va_Pc [.ref (ad 0), .int v, .int x] (XR D T ad I R)) NoR (ThX "java/lang/IndexOutOfBoundsException") 1 6 (fun _ => False) := by
  refine vx_ofW (cc := cX3_point) (maxL := 4) (ret := (some .int)) (by decide) rfl ?_
  intro p e s m args_ below meth c s₁ B hml htb hv
  obtain ⟨rfl, ⟨hP, hK, hN⟩, hXU, hXZ⟩ := hv
  have hx := B.exec
  have hb := B.bytes
  have hr := B.returns
  have hts := atoms_spec (ws := wsX3_point) B.pre
  have hown : s.vm.findClass RX3 = some m.cls := findClass_of_methodNamed B.named
  have hlocks := B.notSynchronized
  have hS : va_S (fun _ => False) s.heap s.heap [] := va_S.rf
  have hl := lv_entry ([.ref (ad 0), .int v, .int x]) (n := 4) (Nat.le_of_ble_eq_true rfl)
  rw [lg_entry_eq]
  generalize (lg_sl ([.ref (ad 0), .int v, .int x]) ++ List.replicate (4 - (lg_sl ([.ref (ad 0), .int v, .int x])).length) Slot.unset).toArray = ls at hl ⊢
  have hl : lv_has ls 4 [(0, .ref (ad 0)), (1, .int v), (2, .int x)] := hl
  refine lv_iload_n hx hb dX3_point_0 rfl (lv_at hl 1 rfl) ?_
  refine cx_ri (va_runS (As := [.int v]) (rest := []) ⟨hx, hb, hml, hown, hts⟩ (c_X3_isNoPlace l  v) (va_cwS 1 hts gX3_point_X3_isNoPlace rfl rfl rfl (by decide +kernel) ⟨Nat.le_of_ble_eq_true rfl, Nat.le_of_ble_eq_true rfl⟩) ⟨pc_blind, (fun U hU hW => ⟨rfl, trivial⟩)⟩ rfl rfl hl.1 rfl (lv_room (Nat.le_of_ble_eq_true rfl)) dX3_point_1 ⟨Nat.le_of_ble_eq_true rfl, Nat.le_of_ble_eq_true rfl⟩) hS hP (fun H locs hP hS => ?_)
  refine cx_top (show (outI v 0 7) = 1 from h1) ?_
  refine lv_if_eq (tgt := 17) hx hb dX3_point_4 (by decide) (fun c_4 => absurd c_4 (by decide)) (fun c_4 => ?_)
  obtain ⟨sa, hsa⟩ := hXU.2 (89, "there is no such point") (List.mem_of_getElem? (i := 4) rfl)
  have hat : ∀ w ∈ vx_atS RX3 50 "java/lang/IndexOutOfBoundsException" ["java/lang/RuntimeException", "java/lang/Exception"], w.before _ s = true := vx_hat (B := thW) (fun w h9 => hts w (List.mem_cons_of_mem _ (List.mem_append_left _ (List.mem_append_right _ h9)))) (by decide +kernel) (fun w hw => va_Nw.use (thW_tab w hw) (hXU.1 w hw))
  exact vx_throwS (names := ["java/lang/RuntimeException", "java/lang/Exception"]) (A := fun _ => False) hx hb hlt hown (by decide +kernel) (by decide +kernel) (hts (.classLink RX3 46 "java/lang/IndexOutOfBoundsException") (by decide +kernel)) (hts (.initialized "java/lang/IndexOutOfBoundsException") (by decide +kernel)) hsa hat (by decide +kernel) hXZ.1 hXZ.2 hS (hl.1.trans hml.symm) dX3_point_7 dX3_point_10 dX3_point_11 dX3_point_13 dX3_point_16 (fun x h9 => (htb x h9).elim) (Nat.le_of_ble_eq_true rfl) (Nat.le_of_ble_eq_true rfl) (Nat.le_of_ble_eq_true rfl) (Nat.le_of_ble_eq_true rfl) hlocks (fun t ha hz hk9 => thx_of (And.intro (Nat.le_trans hS.1 hz) (fun q h1 h2 => (hk9 q (Nat.lt_of_lt_of_le h1 hS.1)).trans (hS.2.1 q h1 h2)))) (fun z hz => hS.2.2 z hz) (Nat.le_of_ble_eq_true rfl) (Nat.le_of_ble_eq_true rfl)
set_option maxHeartbeats 4000000 in
set_option maxRecDepth 100000 in
theorem c_X3_point_t2 (l : Launch) (D : va_G) (T : Nat → ClassId) (ad : Nat → Nat) (I : Nat → Int32) (R : Nat → Nat → Int32) (hlt : l.stackTraces = false) (k : Nat) (x : Int32) (hk : k < 8) (h1 : outI x (-9999) 9999 = 1) : vx_Met l yX3_point wsX3_point ({ frames := 6, cells := 1, slots := 6, locals := 82 }) (va_Pc [.ref (ad 0), .int (nI k), .int x] (XR D T ad I R)) NoR (ThX "java/lang/IllegalArgumentException") 1 6 (fun _ => False) := by
  refine vx_ofW (cc := cX3_point) (maxL := 4) (ret := (some .int)) (by decide) rfl ?_
  intro p e s m args_ below meth c s₁ B hml htb hv
  obtain ⟨rfl, ⟨hP, hK, hN⟩, hXU, hXZ⟩ := hv
  have hx := B.exec
  have hb := B.bytes
  have hr := B.returns
  have hts := atoms_spec (ws := wsX3_point) B.pre
  have hown : s.vm.findClass RX3 = some m.cls := findClass_of_methodNamed B.named
  have hlocks := B.notSynchronized
  have hS : va_S (fun _ => False) s.heap s.heap [] := va_S.rf
  have hl := lv_entry ([.ref (ad 0), .int (nI k), .int x]) (n := 4) (Nat.le_of_ble_eq_true rfl)
  rw [lg_entry_eq]
  generalize (lg_sl ([.ref (ad 0), .int (nI k), .int x]) ++ List.replicate (4 - (lg_sl ([.ref (ad 0), .int (nI k), .int x])).length) Slot.unset).toArray = ls at hl ⊢
  have hl : lv_has ls 4 [(0, .ref (ad 0)), (1, .int (nI k)), (2, .int x)] := hl
  refine lv_iload_n hx hb dX3_point_0 rfl (lv_at hl 1 rfl) ?_
  refine cx_ri (va_runS (As := [.int (nI k)]) (rest := []) ⟨hx, hb, hml, hown, hts⟩ (c_X3_isNoPlace l  (nI k)) (va_cwS 1 hts gX3_point_X3_isNoPlace rfl rfl rfl (by decide +kernel) ⟨Nat.le_of_ble_eq_true rfl, Nat.le_of_ble_eq_true rfl⟩) ⟨pc_blind, (fun U hU hW => ⟨rfl, trivial⟩)⟩ rfl rfl hl.1 rfl (lv_room (Nat.le_of_ble_eq_true rfl)) dX3_point_1 ⟨Nat.le_of_ble_eq_true rfl, Nat.le_of_ble_eq_true rfl⟩) hS hP (fun H locs hP hS => ?_)
  refine cx_top (show (outI (nI k) 0 7) = 0 from out_8 hk) ?_
  refine lv_if_eq (tgt := 17) hx hb dX3_point_4 (by decide) (fun c_4 => ?_) (fun c_4 => absurd c_4 (by decide))
  refine lv_iload_n hx hb dX3_point_17 rfl (lv_at hl 2 rfl) ?_
  refine lv_sipush (v := (-9999)) hx hb dX3_point_18 (by decide) ?_
  refine lv_sipush (v := 9999) hx hb dX3_point_21 (by decide) ?_
  refine cx_ri (va_runS (As := [.int x, .int (-9999), .int 9999]) (rest := []) ⟨hx, hb, hml, hown, hts⟩ (c_X3_isOutside l  x (-9999) 9999) (va_cwS 3 hts gX3_point_X3_isOutside rfl rfl rfl (by decide +kernel) ⟨Nat.le_of_ble_eq_true rfl, Nat.le_of_ble_eq_true rfl⟩) ⟨pc_blind, (fun U hU hW => ⟨rfl, trivial⟩)⟩ rfl rfl hl.1 rfl (lv_room (Nat.le_of_ble_eq_true rfl)) dX3_point_24 ⟨Nat.le_of_ble_eq_true rfl, Nat.le_of_ble_eq_true rfl⟩) hS hP (fun H locs hP hS => ?_)
  refine cx_top (show (outI x (-9999) 9999) = 1 from h1) ?_
  refine lv_if_eq (tgt := 40) hx hb dX3_point_27 (by decide) (fun c_27 => absurd c_27 (by decide)) (fun c_27 => ?_)
  obtain ⟨sa, hsa⟩ := hXU.2 (91, "the number is out of range") (List.mem_of_getElem? (i := 5) rfl)
  have hat : ∀ w ∈ vx_atS RX3 61 "java/lang/IllegalArgumentException" ["java/lang/RuntimeException", "java/lang/Exception"], w.before _ s = true := vx_hat (B := thW) (fun w h9 => hts w (List.mem_cons_of_mem _ (List.mem_append_right _ h9))) (by decide +kernel) (fun w hw => va_Nw.use (thW_tab w hw) (hXU.1 w hw))
  exact vx_throwS (names := ["java/lang/RuntimeException", "java/lang/Exception"]) (A := fun _ => False) hx hb hlt hown (by decide +kernel) (by decide +kernel) (hts (.classLink RX3 57 "java/lang/IllegalArgumentException") (by decide +kernel)) (hts (.initialized "java/lang/IllegalArgumentException") (by decide +kernel)) hsa hat (by decide +kernel) hXZ.1 hXZ.2 hS (hl.1.trans hml.symm) dX3_point_30 dX3_point_33 dX3_point_34 dX3_point_36 dX3_point_39 (fun x h9 => (htb x h9).elim) (Nat.le_of_ble_eq_true rfl) (Nat.le_of_ble_eq_true rfl) (Nat.le_of_ble_eq_true rfl) (Nat.le_of_ble_eq_true rfl) hlocks (fun t ha hz hk9 => thx_of (And.intro (Nat.le_trans hS.1 hz) (fun q h1 h2 => (hk9 q (Nat.lt_of_lt_of_le h1 hS.1)).trans (hS.2.1 q h1 h2)))) (fun z hz => hS.2.2 z hz) (Nat.le_of_ble_eq_true rfl) (Nat.le_of_ble_eq_true rfl)
set_option maxHeartbeats 4000000 in
set_option maxRecDepth 100000 in
theorem c_X3_lose_t1 (l : Launch) (D : va_G) (T : Nat → ClassId) (ad : Nat → Nat) (I : Nat → Int32) (R : Nat → Nat → Int32) (hlt : l.stackTraces = false) (v : Int32) (h1 : outI v 0 7 = 1) : vx_Met l yX3_lose wsX3_lose ({ frames := 6, cells := 1, slots := 6, locals := 82 }) (va_Pc [.ref (ad 0), .int v] (XR D T ad I R)) NoR (ThX "java/lang/IndexOutOfBoundsException") 1 6 (fun _ => False) := by
  refine vx_ofW (cc := cX3_lose) (maxL := 2) (ret := (some .int)) (by decide) rfl ?_
  intro p e s m args_ below meth c s₁ B hml htb hv
  obtain ⟨rfl, ⟨hP, hK, hN⟩, hXU, hXZ⟩ := hv
  have hx := B.exec
  have hb := B.bytes
  have hr := B.returns
  have hts := atoms_spec (ws := wsX3_lose) B.pre
  have hown : s.vm.findClass RX3 = some m.cls := findClass_of_methodNamed B.named
  have hlocks := B.notSynchronized
  have hS : va_S (fun _ => False) s.heap s.heap [] := va_S.rf
  have hl := lv_entry ([.ref (ad 0), .int v]) (n := 2) (Nat.le_of_ble_eq_true rfl)
  rw [lg_entry_eq]
  generalize (lg_sl ([.ref (ad 0), .int v]) ++ List.replicate (2 - (lg_sl ([.ref (ad 0), .int v])).length) Slot.unset).toArray = ls at hl ⊢
  have hl : lv_has ls 2 [(0, .ref (ad 0)), (1, .int v)] := hl
  refine lv_iload_n hx hb dX3_lose_0 rfl (lv_at hl 1 rfl) ?_
  refine cx_ri (va_runS (As := [.int v]) (rest := []) ⟨hx, hb, hml, hown, hts⟩ (c_X3_isNoPlace l  v) (va_cwS 1 hts gX3_lose_X3_isNoPlace rfl rfl rfl (by decide +kernel) ⟨Nat.le_of_ble_eq_true rfl, Nat.le_of_ble_eq_true rfl⟩) ⟨pc_blind, (fun U hU hW => ⟨rfl, trivial⟩)⟩ rfl rfl hl.1 rfl (lv_room (Nat.le_of_ble_eq_true rfl)) dX3_lose_1 ⟨Nat.le_of_ble_eq_true rfl, Nat.le_of_ble_eq_true rfl⟩) hS hP (fun H locs hP hS => ?_)
  refine cx_top (show (outI v 0 7) = 1 from h1) ?_
  refine lv_if_eq (tgt := 17) hx hb dX3_lose_4 (by decide) (fun c_4 => absurd c_4 (by decide)) (fun c_4 => ?_)
  obtain ⟨sa, hsa⟩ := hXU.2 (48, "there is no such wheel") (List.mem_of_getElem? (i := 0) rfl)
  have hat : ∀ w ∈ vx_atS RX3 50 "java/lang/IndexOutOfBoundsException" ["java/lang/RuntimeException", "java/lang/Exception"], w.before _ s = true := vx_hat (B := thW) (fun w h9 => hts w (List.mem_cons_of_mem _ (List.mem_append_right _ h9))) (by decide +kernel) (fun w hw => va_Nw.use (thW_tab w hw) (hXU.1 w hw))
  exact vx_throwS (names := ["java/lang/RuntimeException", "java/lang/Exception"]) (A := fun _ => False) hx hb hlt hown (by decide +kernel) (by decide +kernel) (hts (.classLink RX3 46 "java/lang/IndexOutOfBoundsException") (by decide +kernel)) (hts (.initialized "java/lang/IndexOutOfBoundsException") (by decide +kernel)) hsa hat (by decide +kernel) hXZ.1 hXZ.2 hS (hl.1.trans hml.symm) dX3_lose_7 dX3_lose_10 dX3_lose_11 dX3_lose_13 dX3_lose_16 (fun x h9 => (htb x h9).elim) (Nat.le_of_ble_eq_true rfl) (Nat.le_of_ble_eq_true rfl) (Nat.le_of_ble_eq_true rfl) (Nat.le_of_ble_eq_true rfl) hlocks (fun t ha hz hk9 => thx_of (And.intro (Nat.le_trans hS.1 hz) (fun q h1 h2 => (hk9 q (Nat.lt_of_lt_of_le h1 hS.1)).trans (hS.2.1 q h1 h2)))) (fun z hz => hS.2.2 z hz) (Nat.le_of_ble_eq_true rfl) (Nat.le_of_ble_eq_true rfl)
set_option maxHeartbeats 4000000 in
set_option maxRecDepth 100000 in
theorem c_X3_turn_t1 (l : Launch) (D : va_G) (T : Nat → ClassId) (ad : Nat → Nat) (I : Nat → Int32) (R : Nat → Nat → Int32) (hlt : l.stackTraces = false) (v : Int32) (h1 : outI v 0 7 = 1) : vx_Met l yX3_turn wsX3_turn ({ frames := 6, cells := 1, slots := 6, locals := 82 }) (va_Pc [.ref (ad 0), .int v] (XR D T ad I R)) NoR (ThX "java/lang/IllegalArgumentException") 1 6 (fun _ => False) := by
  refine vx_ofW (cc := cX3_turn) (maxL := 4) (ret := (some .int)) (by decide) rfl ?_
  intro p e s m args_ below meth c s₁ B hml htb hv
  obtain ⟨rfl, ⟨hP, hK, hN⟩, hXU, hXZ⟩ := hv
  have hx := B.exec
  have hb := B.bytes
  have hr := B.returns
  have hts := atoms_spec (ws := wsX3_turn) B.pre
  have hown : s.vm.findClass RX3 = some m.cls := findClass_of_methodNamed B.named
  have hlocks := B.notSynchronized
  have hS : va_S (fun _ => False) s.heap s.heap [] := va_S.rf
  have hl := lv_entry ([.ref (ad 0), .int v]) (n := 4) (Nat.le_of_ble_eq_true rfl)
  rw [lg_entry_eq]
  generalize (lg_sl ([.ref (ad 0), .int v]) ++ List.replicate (4 - (lg_sl ([.ref (ad 0), .int v])).length) Slot.unset).toArray = ls at hl ⊢
  have hl : lv_has ls 4 [(0, .ref (ad 0)), (1, .int v)] := hl
  refine lv_iload_n hx hb dX3_turn_0 rfl (lv_at hl 1 rfl) ?_
  refine cx_ri (va_runS (As := [.int v]) (rest := []) ⟨hx, hb, hml, hown, hts⟩ (c_X3_isNoPlace l  v) (va_cwS 1 hts gX3_turn_X3_isNoPlace rfl rfl rfl (by decide +kernel) ⟨Nat.le_of_ble_eq_true rfl, Nat.le_of_ble_eq_true rfl⟩) ⟨pc_blind, (fun U hU hW => ⟨rfl, trivial⟩)⟩ rfl rfl hl.1 rfl (lv_room (Nat.le_of_ble_eq_true rfl)) dX3_turn_1 ⟨Nat.le_of_ble_eq_true rfl, Nat.le_of_ble_eq_true rfl⟩) hS hP (fun H locs hP hS => ?_)
  refine cx_top (show (outI v 0 7) = 1 from h1) ?_
  refine lv_if_eq (tgt := 17) hx hb dX3_turn_4 (by decide) (fun c_4 => absurd c_4 (by decide)) (fun c_4 => ?_)
  obtain ⟨sa, hsa⟩ := hXU.2 (75, "by is out of range") (List.mem_of_getElem? (i := 2) rfl)
  have hat : ∀ w ∈ vx_atS RX3 61 "java/lang/IllegalArgumentException" ["java/lang/RuntimeException", "java/lang/Exception"], w.before _ s = true := vx_hat (B := thW) (fun w h9 => hts w (List.mem_cons_of_mem _ (List.mem_append_right _ h9))) (by decide +kernel) (fun w hw => va_Nw.use (thW_tab w hw) (hXU.1 w hw))
  exact vx_throwS (names := ["java/lang/RuntimeException", "java/lang/Exception"]) (A := fun _ => False) hx hb hlt hown (by decide +kernel) (by decide +kernel) (hts (.classLink RX3 57 "java/lang/IllegalArgumentException") (by decide +kernel)) (hts (.initialized "java/lang/IllegalArgumentException") (by decide +kernel)) hsa hat (by decide +kernel) hXZ.1 hXZ.2 hS (hl.1.trans hml.symm) dX3_turn_7 dX3_turn_10 dX3_turn_11 dX3_turn_13 dX3_turn_16 (fun x h9 => (htb x h9).elim) (Nat.le_of_ble_eq_true rfl) (Nat.le_of_ble_eq_true rfl) (Nat.le_of_ble_eq_true rfl) (Nat.le_of_ble_eq_true rfl) hlocks (fun t ha hz hk9 => thx_of (And.intro (Nat.le_trans hS.1 hz) (fun q h1 h2 => (hk9 q (Nat.lt_of_lt_of_le h1 hS.1)).trans (hS.2.1 q h1 h2)))) (fun z hz => hS.2.2 z hz) (Nat.le_of_ble_eq_true rfl) (Nat.le_of_ble_eq_true rfl)
set_option maxHeartbeats 4000000 in
set_option maxRecDepth 100000 in
theorem c_X3_drop_t1 (l : Launch) (D : va_G) (T : Nat → ClassId) (ad : Nat → Nat) (I : Nat → Int32) (R : Nat → Nat → Int32) (hlt : l.stackTraces = false) (x : Int32) (h1 : outI x 1 99 = 1) : vx_Met l yX3_drop wsX3_drop ({ frames := 6, cells := 1, slots := 6, locals := 82 }) (va_Pc [.ref (ad 0), .int x] (XR D T ad I R)) NoR (ThX "java/lang/IllegalArgumentException") 1 6 (fun _ => False) := by
  refine vx_ofW (cc := cX3_drop) (maxL := 4) (ret := (some .int)) (by decide) rfl ?_
  intro p e s m args_ below meth c s₁ B hml htb hv
  obtain ⟨rfl, ⟨hP, hK, hN⟩, hXU, hXZ⟩ := hv
  have hx := B.exec
  have hb := B.bytes
  have hr := B.returns
  have hts := atoms_spec (ws := wsX3_drop) B.pre
  have hown : s.vm.findClass RX3 = some m.cls := findClass_of_methodNamed B.named
  have hlocks := B.notSynchronized
  have hS : va_S (fun _ => False) s.heap s.heap [] := va_S.rf
  have hl := lv_entry ([.ref (ad 0), .int x]) (n := 4) (Nat.le_of_ble_eq_true rfl)
  rw [lg_entry_eq]
  generalize (lg_sl ([.ref (ad 0), .int x]) ++ List.replicate (4 - (lg_sl ([.ref (ad 0), .int x])).length) Slot.unset).toArray = ls at hl ⊢
  have hl : lv_has ls 4 [(0, .ref (ad 0)), (1, .int x)] := hl
  refine lv_iload_n hx hb dX3_drop_0 rfl (lv_at hl 1 rfl) ?_
  refine lv_iconst (v := 1) hx hb dX3_drop_1 (by decide) ?_
  refine lv_bipush (v := 99) hx hb dX3_drop_2 (by decide) ?_
  refine cx_ri (va_runS (As := [.int x, .int 1, .int 99]) (rest := []) ⟨hx, hb, hml, hown, hts⟩ (c_X3_isOutside l  x 1 99) (va_cwS 3 hts gX3_drop_X3_isOutside rfl rfl rfl (by decide +kernel) ⟨Nat.le_of_ble_eq_true rfl, Nat.le_of_ble_eq_true rfl⟩) ⟨pc_blind, (fun U hU hW => ⟨rfl, trivial⟩)⟩ rfl rfl hl.1 rfl (lv_room (Nat.le_of_ble_eq_true rfl)) dX3_drop_4 ⟨Nat.le_of_ble_eq_true rfl, Nat.le_of_ble_eq_true rfl⟩) hS hP (fun H locs hP hS => ?_)
  refine cx_top (show (outI x 1 99) = 1 from h1) ?_
  refine lv_if_eq (tgt := 20) hx hb dX3_drop_7 (by decide) (fun c_7 => absurd c_7 (by decide)) (fun c_7 => ?_)
  obtain ⟨sa, hsa⟩ := hXU.2 (81, "least is out of range") (List.mem_of_getElem? (i := 3) rfl)
  have hat : ∀ w ∈ vx_atS RX3 61 "java/lang/IllegalArgumentException" ["java/lang/RuntimeException", "java/lang/Exception"], w.before _ s = true := vx_hat (B := thW) (fun w h9 => hts w (List.mem_cons_of_mem _ (List.mem_append_right _ h9))) (by decide +kernel) (fun w hw => va_Nw.use (thW_tab w hw) (hXU.1 w hw))
  exact vx_throwS (names := ["java/lang/RuntimeException", "java/lang/Exception"]) (A := fun _ => False) hx hb hlt hown (by decide +kernel) (by decide +kernel) (hts (.classLink RX3 57 "java/lang/IllegalArgumentException") (by decide +kernel)) (hts (.initialized "java/lang/IllegalArgumentException") (by decide +kernel)) hsa hat (by decide +kernel) hXZ.1 hXZ.2 hS (hl.1.trans hml.symm) dX3_drop_10 dX3_drop_13 dX3_drop_14 dX3_drop_16 dX3_drop_19 (fun x h9 => (htb x h9).elim) (Nat.le_of_ble_eq_true rfl) (Nat.le_of_ble_eq_true rfl) (Nat.le_of_ble_eq_true rfl) (Nat.le_of_ble_eq_true rfl) hlocks (fun t ha hz hk9 => thx_of (And.intro (Nat.le_trans hS.1 hz) (fun q h1 h2 => (hk9 q (Nat.lt_of_lt_of_le h1 hS.1)).trans (hS.2.1 q h1 h2)))) (fun z hz => hS.2.2 z hz) (Nat.le_of_ble_eq_true rfl) (Nat.le_of_ble_eq_true rfl)
set_option maxHeartbeats 4000000 in
set_option maxRecDepth 100000 in
theorem c_X3_undo_t1 (l : Launch) (D : va_G) (T : Nat → ClassId) (ad : Nat → Nat) (I : Nat → Int32) (R : Nat → Nat → Int32) (hlt : l.stackTraces = false) (hI2 : I 2 = 0) : vx_Met l yX3_undo wsX3_undo ({ frames := 6, cells := 1, slots := 6, locals := 82 }) (va_Pc [.ref (ad 0)] (XR D T ad I R)) NoR (ThX "java/lang/IllegalStateException") 1 6 (fun _ => False) := by
  refine vx_ofW (cc := cX3_undo) (maxL := 1) (ret := (some .int)) (by decide) rfl ?_
  intro p e s m args_ below meth c s₁ B hml htb hv
  obtain ⟨rfl, ⟨hP, hK, hN⟩, hXU, hXZ⟩ := hv
  have hx := B.exec
  have hb := B.bytes
  have hr := B.returns
  have hts := atoms_spec (ws := wsX3_undo) B.pre
  have hown : s.vm.findClass RX3 = some m.cls := findClass_of_methodNamed B.named
  have hlocks := B.notSynchronized
  have hinX1 : ∀ w ∈ u_ws RX1 TX1 3, w ∈ wsX3_undo := by decide +kernel
  have hinX3 : ∀ w ∈ u_ws RX3 TX3 6, w ∈ wsX3_undo := by decide +kernel
  have hS : va_S (fun _ => False) s.heap s.heap [] := va_S.rf
  have hl := lv_entry ([.ref (ad 0)]) (n := 1) (Nat.le_of_ble_eq_true rfl)
  rw [lg_entry_eq]
  generalize (lg_sl ([.ref (ad 0)]) ++ List.replicate (1 - (lg_sl ([.ref (ad 0)])).length) Slot.unset).toArray = ls at hl ⊢
  have hl : lv_has ls 1 [(0, .ref (ad 0))] := hl
  refine lv_aload_n hx hb dX3_undo_0 rfl (lv_at hl 0 rfl) ?_
  refine va_get (D := D) (ci := 3) (v := .ref (ad 5)) (C := RX3) (T := TX3) (N := 6) hx hb hts hinX3 hown hK hP 0 cw_0 rfl 3 (by decide) (hts (.fieldLink RX3 27 "SquareGears" "saved" "LSquareGears$SavedGears;") (by decide +kernel)) (fun _ h9 => h9) rfl dX3_undo_1 ?_
  refine va_getN (D := D) (ci := 1) (v := .int (I 2)) (C := RX1) (T := TX1) (N := 3) hx hb hts hinX1 hown hK hP 5 cw_5 rfl 2 (by decide) (nw_use rfl (nwf_X3_157 hN)) (fun _ h9 => h9) rfl dX3_undo_4 ?_
  refine cx_top (show (I 2) = 0 from hI2) ?_
  refine lv_if_ne (tgt := 20) hx hb dX3_undo_7 (by decide) (fun c_7 => absurd c_7 (by decide)) (fun c_7 => ?_)
  obtain ⟨sa, hsa⟩ := hXU.2 (160, "there is no saved state") (List.mem_of_getElem? (i := 6) rfl)
  have hat : ∀ w ∈ vx_atS RX3 121 "java/lang/IllegalStateException" ["java/lang/RuntimeException", "java/lang/Exception"], w.before _ s = true := vx_hat (B := thW) (fun w h9 => hts w (List.mem_cons_of_mem _ (List.mem_append_right _ h9))) (by decide +kernel) (fun w hw => va_Nw.use (thW_tab w hw) (hXU.1 w hw))
  exact vx_throwS (names := ["java/lang/RuntimeException", "java/lang/Exception"]) (A := fun _ => False) hx hb hlt hown (by decide +kernel) (by decide +kernel) (hts (.classLink RX3 117 "java/lang/IllegalStateException") (by decide +kernel)) (hts (.initialized "java/lang/IllegalStateException") (by decide +kernel)) hsa hat (by decide +kernel) hXZ.1 hXZ.2 hS (hl.1.trans hml.symm) dX3_undo_10 dX3_undo_13 dX3_undo_14 dX3_undo_16 dX3_undo_19 (fun x h9 => (htb x h9).elim) (Nat.le_of_ble_eq_true rfl) (Nat.le_of_ble_eq_true rfl) (Nat.le_of_ble_eq_true rfl) (Nat.le_of_ble_eq_true rfl) hlocks (fun t ha hz hk9 => thx_of (And.intro (Nat.le_trans hS.1 hz) (fun q h1 h2 => (hk9 q (Nat.lt_of_lt_of_le h1 hS.1)).trans (hS.2.1 q h1 h2)))) (fun z hz => hS.2.2 z hz) (Nat.le_of_ble_eq_true rfl) (Nat.le_of_ble_eq_true rfl)
set_option maxHeartbeats 4000000 in
set_option maxRecDepth 100000 in
theorem c_X3_wheelOf_t1 (l : Launch) (D : va_G) (T : Nat → ClassId) (ad : Nat → Nat) (I : Nat → Int32) (R : Nat → Nat → Int32) (hlt : l.stackTraces = false) (v : Int32) (x : Int32) (h1 : outI v 0 7 = 1) : vx_Met l yX3_wheelOf wsX3_wheelOf ({ frames := 6, cells := 1, slots := 6, locals := 82 }) (va_Pc [.ref (ad 0), .int v, .int x] (XR D T ad I R)) NoR (ThX "java/lang/IndexOutOfBoundsException") 1 6 (fun _ => False) := by
  refine vx_ofW (cc := cX3_wheelOf) (maxL := 3) (ret := (some .int)) (by decide) rfl ?_
  intro p e s m args_ below meth c s₁ B hml htb hv
  obtain ⟨rfl, ⟨hP, hK, hN⟩, hXU, hXZ⟩ := hv
  have hx := B.exec
  have hb := B.bytes
  have hr := B.returns
  have hts := atoms_spec (ws := wsX3_wheelOf) B.pre
  have hown : s.vm.findClass RX3 = some m.cls := findClass_of_methodNamed B.named
  have hlocks := B.notSynchronized
  have hS : va_S (fun _ => False) s.heap s.heap [] := va_S.rf
  have hl := lv_entry ([.ref (ad 0), .int v, .int x]) (n := 3) (Nat.le_of_ble_eq_true rfl)
  rw [lg_entry_eq]
  generalize (lg_sl ([.ref (ad 0), .int v, .int x]) ++ List.replicate (3 - (lg_sl ([.ref (ad 0), .int v, .int x])).length) Slot.unset).toArray = ls at hl ⊢
  have hl : lv_has ls 3 [(0, .ref (ad 0)), (1, .int v), (2, .int x)] := hl
  refine lv_iload_n hx hb dX3_wheelOf_0 rfl (lv_at hl 1 rfl) ?_
  refine cx_ri (va_runS (As := [.int v]) (rest := []) ⟨hx, hb, hml, hown, hts⟩ (c_X3_isNoPlace l  v) (va_cwS 1 hts gX3_wheelOf_X3_isNoPlace rfl rfl rfl (by decide +kernel) ⟨Nat.le_of_ble_eq_true rfl, Nat.le_of_ble_eq_true rfl⟩) ⟨pc_blind, (fun U hU hW => ⟨rfl, trivial⟩)⟩ rfl rfl hl.1 rfl (lv_room (Nat.le_of_ble_eq_true rfl)) dX3_wheelOf_1 ⟨Nat.le_of_ble_eq_true rfl, Nat.le_of_ble_eq_true rfl⟩) hS hP (fun H locs hP hS => ?_)
  refine cx_top (show (outI v 0 7) = 1 from h1) ?_
  refine lv_if_eq (tgt := 17) hx hb dX3_wheelOf_4 (by decide) (fun c_4 => absurd c_4 (by decide)) (fun c_4 => ?_)
  obtain ⟨sa, hsa⟩ := hXU.2 (48, "there is no such wheel") (List.mem_of_getElem? (i := 0) rfl)
  have hat : ∀ w ∈ vx_atS RX3 50 "java/lang/IndexOutOfBoundsException" ["java/lang/RuntimeException", "java/lang/Exception"], w.before _ s = true := vx_hat (B := thW) (fun w h9 => hts w (List.mem_cons_of_mem _ (List.mem_append_left _ (List.mem_append_right _ h9)))) (by decide +kernel) (fun w hw => va_Nw.use (thW_tab w hw) (hXU.1 w hw))
  exact vx_throwS (names := ["java/lang/RuntimeException", "java/lang/Exception"]) (A := fun _ => False) hx hb hlt hown (by decide +kernel) (by decide +kernel) (hts (.classLink RX3 46 "java/lang/IndexOutOfBoundsException") (by decide +kernel)) (hts (.initialized "java/lang/IndexOutOfBoundsException") (by decide +kernel)) hsa hat (by decide +kernel) hXZ.1 hXZ.2 hS (hl.1.trans hml.symm) dX3_wheelOf_7 dX3_wheelOf_10 dX3_wheelOf_11 dX3_wheelOf_13 dX3_wheelOf_16 (fun x h9 => (htb x h9).elim) (Nat.le_of_ble_eq_true rfl) (Nat.le_of_ble_eq_true rfl) (Nat.le_of_ble_eq_true rfl) (Nat.le_of_ble_eq_true rfl) hlocks (fun t ha hz hk9 => thx_of (And.intro (Nat.le_trans hS.1 hz) (fun q h1 h2 => (hk9 q (Nat.lt_of_lt_of_le h1 hS.1)).trans (hS.2.1 q h1 h2)))) (fun z hz => hS.2.2 z hz) (Nat.le_of_ble_eq_true rfl) (Nat.le_of_ble_eq_true rfl)
set_option maxHeartbeats 4000000 in
set_option maxRecDepth 100000 in
theorem c_X3_wheelOf_t2 (l : Launch) (D : va_G) (T : Nat → ClassId) (ad : Nat → Nat) (I : Nat → Int32) (R : Nat → Nat → Int32) (hlt : l.stackTraces = false) (k : Nat) (x : Int32) (hk : k < 8) (h1 : outI x 0 3 = 1) : vx_Met l yX3_wheelOf wsX3_wheelOf ({ frames := 6, cells := 1, slots := 6, locals := 82 }) (va_Pc [.ref (ad 0), .int (nI k), .int x] (XR D T ad I R)) NoR (ThX "java/lang/IllegalArgumentException") 1 6 (fun _ => False) := by
  refine vx_ofW (cc := cX3_wheelOf) (maxL := 3) (ret := (some .int)) (by decide) rfl ?_
  intro p e s m args_ below meth c s₁ B hml htb hv
  obtain ⟨rfl, ⟨hP, hK, hN⟩, hXU, hXZ⟩ := hv
  have hx := B.exec
  have hb := B.bytes
  have hr := B.returns
  have hts := atoms_spec (ws := wsX3_wheelOf) B.pre
  have hown : s.vm.findClass RX3 = some m.cls := findClass_of_methodNamed B.named
  have hlocks := B.notSynchronized
  have hS : va_S (fun _ => False) s.heap s.heap [] := va_S.rf
  have hl := lv_entry ([.ref (ad 0), .int (nI k), .int x]) (n := 3) (Nat.le_of_ble_eq_true rfl)
  rw [lg_entry_eq]
  generalize (lg_sl ([.ref (ad 0), .int (nI k), .int x]) ++ List.replicate (3 - (lg_sl ([.ref (ad 0), .int (nI k), .int x])).length) Slot.unset).toArray = ls at hl ⊢
  have hl : lv_has ls 3 [(0, .ref (ad 0)), (1, .int (nI k)), (2, .int x)] := hl
  refine lv_iload_n hx hb dX3_wheelOf_0 rfl (lv_at hl 1 rfl) ?_
  refine cx_ri (va_runS (As := [.int (nI k)]) (rest := []) ⟨hx, hb, hml, hown, hts⟩ (c_X3_isNoPlace l  (nI k)) (va_cwS 1 hts gX3_wheelOf_X3_isNoPlace rfl rfl rfl (by decide +kernel) ⟨Nat.le_of_ble_eq_true rfl, Nat.le_of_ble_eq_true rfl⟩) ⟨pc_blind, (fun U hU hW => ⟨rfl, trivial⟩)⟩ rfl rfl hl.1 rfl (lv_room (Nat.le_of_ble_eq_true rfl)) dX3_wheelOf_1 ⟨Nat.le_of_ble_eq_true rfl, Nat.le_of_ble_eq_true rfl⟩) hS hP (fun H locs hP hS => ?_)
  refine cx_top (show (outI (nI k) 0 7) = 0 from out_8 hk) ?_
  refine lv_if_eq (tgt := 17) hx hb dX3_wheelOf_4 (by decide) (fun c_4 => ?_) (fun c_4 => absurd c_4 (by decide))
  refine lv_iload_n hx hb dX3_wheelOf_17 rfl (lv_at hl 2 rfl) ?_
  refine lv_iconst (v := 0) hx hb dX3_wheelOf_18 (by decide) ?_
  refine lv_iconst (v := 3) hx hb dX3_wheelOf_19 (by decide) ?_
  refine cx_ri (va_runS (As := [.int x, .int 0, .int 3]) (rest := []) ⟨hx, hb, hml, hown, hts⟩ (c_X3_isOutside l  x 0 3) (va_cwS 3 hts gX3_wheelOf_X3_isOutside rfl rfl rfl (by decide +kernel) ⟨Nat.le_of_ble_eq_true rfl, Nat.le_of_ble_eq_true rfl⟩) ⟨pc_blind, (fun U hU hW => ⟨rfl, trivial⟩)⟩ rfl rfl hl.1 rfl (lv_room (Nat.le_of_ble_eq_true rfl)) dX3_wheelOf_20 ⟨Nat.le_of_ble_eq_true rfl, Nat.le_of_ble_eq_true rfl⟩) hS hP (fun H locs hP hS => ?_)
  refine cx_top (show (outI x 0 3) = 1 from h1) ?_
  refine lv_if_eq (tgt := 36) hx hb dX3_wheelOf_23 (by decide) (fun c_23 => absurd c_23 (by decide)) (fun c_23 => ?_)
  obtain ⟨sa, hsa⟩ := hXU.2 (165, "what is not 0 to 3") (List.mem_of_getElem? (i := 7) rfl)
  have hat : ∀ w ∈ vx_atS RX3 61 "java/lang/IllegalArgumentException" ["java/lang/RuntimeException", "java/lang/Exception"], w.before _ s = true := vx_hat (B := thW) (fun w h9 => hts w (List.mem_cons_of_mem _ (List.mem_append_right _ h9))) (by decide +kernel) (fun w hw => va_Nw.use (thW_tab w hw) (hXU.1 w hw))
  exact vx_throwS (names := ["java/lang/RuntimeException", "java/lang/Exception"]) (A := fun _ => False) hx hb hlt hown (by decide +kernel) (by decide +kernel) (hts (.classLink RX3 57 "java/lang/IllegalArgumentException") (by decide +kernel)) (hts (.initialized "java/lang/IllegalArgumentException") (by decide +kernel)) hsa hat (by decide +kernel) hXZ.1 hXZ.2 hS (hl.1.trans hml.symm) dX3_wheelOf_26 dX3_wheelOf_29 dX3_wheelOf_30 dX3_wheelOf_32 dX3_wheelOf_35 (fun x h9 => (htb x h9).elim) (Nat.le_of_ble_eq_true rfl) (Nat.le_of_ble_eq_true rfl) (Nat.le_of_ble_eq_true rfl) (Nat.le_of_ble_eq_true rfl) hlocks (fun t ha hz hk9 => thx_of (And.intro (Nat.le_trans hS.1 hz) (fun q h1 h2 => (hk9 q (Nat.lt_of_lt_of_le h1 hS.1)).trans (hS.2.1 q h1 h2)))) (fun z hz => hS.2.2 z hz) (Nat.le_of_ble_eq_true rfl) (Nat.le_of_ble_eq_true rfl)
set_option maxHeartbeats 4000000 in
set_option maxRecDepth 100000 in
theorem c_X3_trace_t1 (l : Launch) (D : va_G) (T : Nat → ClassId) (ad : Nat → Nat) (I : Nat → Int32) (R : Nat → Nat → Int32) (hlt : l.stackTraces = false) (v : Int32) (x : Int32) (h1 : outI v 0 7 = 1) : vx_Met l yX3_trace wsX3_trace ({ frames := 6, cells := 1, slots := 6, locals := 82 }) (va_Pc [.ref (ad 0), .int v, .int x] (XR D T ad I R)) NoR (ThX "java/lang/IndexOutOfBoundsException") 1 6 (fun _ => False) := by
  refine vx_ofW (cc := cX3_trace) (maxL := 3) (ret := (some .int)) (by decide) rfl ?_
  intro p e s m args_ below meth c s₁ B hml htb hv
  obtain ⟨rfl, ⟨hP, hK, hN⟩, hXU, hXZ⟩ := hv
  have hx := B.exec
  have hb := B.bytes
  have hr := B.returns
  have hts := atoms_spec (ws := wsX3_trace) B.pre
  have hown : s.vm.findClass RX3 = some m.cls := findClass_of_methodNamed B.named
  have hlocks := B.notSynchronized
  have hS : va_S (fun _ => False) s.heap s.heap [] := va_S.rf
  have hl := lv_entry ([.ref (ad 0), .int v, .int x]) (n := 3) (Nat.le_of_ble_eq_true rfl)
  rw [lg_entry_eq]
  generalize (lg_sl ([.ref (ad 0), .int v, .int x]) ++ List.replicate (3 - (lg_sl ([.ref (ad 0), .int v, .int x])).length) Slot.unset).toArray = ls at hl ⊢
  have hl : lv_has ls 3 [(0, .ref (ad 0)), (1, .int v), (2, .int x)] := hl
  refine lv_iload_n hx hb dX3_trace_0 rfl (lv_at hl 1 rfl) ?_
  refine cx_ri (va_runS (As := [.int v]) (rest := []) ⟨hx, hb, hml, hown, hts⟩ (c_X3_isNoPlace l  v) (va_cwS 1 hts gX3_trace_X3_isNoPlace rfl rfl rfl (by decide +kernel) ⟨Nat.le_of_ble_eq_true rfl, Nat.le_of_ble_eq_true rfl⟩) ⟨pc_blind, (fun U hU hW => ⟨rfl, trivial⟩)⟩ rfl rfl hl.1 rfl (lv_room (Nat.le_of_ble_eq_true rfl)) dX3_trace_1 ⟨Nat.le_of_ble_eq_true rfl, Nat.le_of_ble_eq_true rfl⟩) hS hP (fun H locs hP hS => ?_)
  refine cx_top (show (outI v 0 7) = 1 from h1) ?_
  refine lv_if_eq (tgt := 17) hx hb dX3_trace_4 (by decide) (fun c_4 => absurd c_4 (by decide)) (fun c_4 => ?_)
  obtain ⟨sa, hsa⟩ := hXU.2 (89, "there is no such point") (List.mem_of_getElem? (i := 4) rfl)
  have hat : ∀ w ∈ vx_atS RX3 50 "java/lang/IndexOutOfBoundsException" ["java/lang/RuntimeException", "java/lang/Exception"], w.before _ s = true := vx_hat (B := thW) (fun w h9 => hts w (List.mem_cons_of_mem _ (List.mem_append_left _ (List.mem_append_right _ h9)))) (by decide +kernel) (fun w hw => va_Nw.use (thW_tab w hw) (hXU.1 w hw))
  exact vx_throwS (names := ["java/lang/RuntimeException", "java/lang/Exception"]) (A := fun _ => False) hx hb hlt hown (by decide +kernel) (by decide +kernel) (hts (.classLink RX3 46 "java/lang/IndexOutOfBoundsException") (by decide +kernel)) (hts (.initialized "java/lang/IndexOutOfBoundsException") (by decide +kernel)) hsa hat (by decide +kernel) hXZ.1 hXZ.2 hS (hl.1.trans hml.symm) dX3_trace_7 dX3_trace_10 dX3_trace_11 dX3_trace_13 dX3_trace_16 (fun x h9 => (htb x h9).elim) (Nat.le_of_ble_eq_true rfl) (Nat.le_of_ble_eq_true rfl) (Nat.le_of_ble_eq_true rfl) (Nat.le_of_ble_eq_true rfl) hlocks (fun t ha hz hk9 => thx_of (And.intro (Nat.le_trans hS.1 hz) (fun q h1 h2 => (hk9 q (Nat.lt_of_lt_of_le h1 hS.1)).trans (hS.2.1 q h1 h2)))) (fun z hz => hS.2.2 z hz) (Nat.le_of_ble_eq_true rfl) (Nat.le_of_ble_eq_true rfl)
set_option maxHeartbeats 4000000 in
set_option maxRecDepth 100000 in
theorem c_X3_trace_t2 (l : Launch) (D : va_G) (T : Nat → ClassId) (ad : Nat → Nat) (I : Nat → Int32) (R : Nat → Nat → Int32) (hlt : l.stackTraces = false) (k : Nat) (x : Int32) (hk : k < 8) (h1 : outI x 0 1 = 1) : vx_Met l yX3_trace wsX3_trace ({ frames := 6, cells := 1, slots := 6, locals := 82 }) (va_Pc [.ref (ad 0), .int (nI k), .int x] (XR D T ad I R)) NoR (ThX "java/lang/IllegalArgumentException") 1 6 (fun _ => False) := by
  refine vx_ofW (cc := cX3_trace) (maxL := 3) (ret := (some .int)) (by decide) rfl ?_
  intro p e s m args_ below meth c s₁ B hml htb hv
  obtain ⟨rfl, ⟨hP, hK, hN⟩, hXU, hXZ⟩ := hv
  have hx := B.exec
  have hb := B.bytes
  have hr := B.returns
  have hts := atoms_spec (ws := wsX3_trace) B.pre
  have hown : s.vm.findClass RX3 = some m.cls := findClass_of_methodNamed B.named
  have hlocks := B.notSynchronized
  have hS : va_S (fun _ => False) s.heap s.heap [] := va_S.rf
  have hl := lv_entry ([.ref (ad 0), .int (nI k), .int x]) (n := 3) (Nat.le_of_ble_eq_true rfl)
  rw [lg_entry_eq]
  generalize (lg_sl ([.ref (ad 0), .int (nI k), .int x]) ++ List.replicate (3 - (lg_sl ([.ref (ad 0), .int (nI k), .int x])).length) Slot.unset).toArray = ls at hl ⊢
  have hl : lv_has ls 3 [(0, .ref (ad 0)), (1, .int (nI k)), (2, .int x)] := hl
  refine lv_iload_n hx hb dX3_trace_0 rfl (lv_at hl 1 rfl) ?_
  refine cx_ri (va_runS (As := [.int (nI k)]) (rest := []) ⟨hx, hb, hml, hown, hts⟩ (c_X3_isNoPlace l  (nI k)) (va_cwS 1 hts gX3_trace_X3_isNoPlace rfl rfl rfl (by decide +kernel) ⟨Nat.le_of_ble_eq_true rfl, Nat.le_of_ble_eq_true rfl⟩) ⟨pc_blind, (fun U hU hW => ⟨rfl, trivial⟩)⟩ rfl rfl hl.1 rfl (lv_room (Nat.le_of_ble_eq_true rfl)) dX3_trace_1 ⟨Nat.le_of_ble_eq_true rfl, Nat.le_of_ble_eq_true rfl⟩) hS hP (fun H locs hP hS => ?_)
  refine cx_top (show (outI (nI k) 0 7) = 0 from out_8 hk) ?_
  refine lv_if_eq (tgt := 17) hx hb dX3_trace_4 (by decide) (fun c_4 => ?_) (fun c_4 => absurd c_4 (by decide))
  refine lv_iload_n hx hb dX3_trace_17 rfl (lv_at hl 2 rfl) ?_
  refine lv_iconst (v := 0) hx hb dX3_trace_18 (by decide) ?_
  refine lv_iconst (v := 1) hx hb dX3_trace_19 (by decide) ?_
  refine cx_ri (va_runS (As := [.int x, .int 0, .int 1]) (rest := []) ⟨hx, hb, hml, hown, hts⟩ (c_X3_isOutside l  x 0 1) (va_cwS 3 hts gX3_trace_X3_isOutside rfl rfl rfl (by decide +kernel) ⟨Nat.le_of_ble_eq_true rfl, Nat.le_of_ble_eq_true rfl⟩) ⟨pc_blind, (fun U hU hW => ⟨rfl, trivial⟩)⟩ rfl rfl hl.1 rfl (lv_room (Nat.le_of_ble_eq_true rfl)) dX3_trace_20 ⟨Nat.le_of_ble_eq_true rfl, Nat.le_of_ble_eq_true rfl⟩) hS hP (fun H locs hP hS => ?_)
  refine cx_top (show (outI x 0 1) = 1 from h1) ?_
  refine lv_if_eq (tgt := 36) hx hb dX3_trace_23 (by decide) (fun c_23 => absurd c_23 (by decide)) (fun c_23 => ?_)
  obtain ⟨sa, hsa⟩ := hXU.2 (170, "what is not 0 or 1") (List.mem_of_getElem? (i := 8) rfl)
  have hat : ∀ w ∈ vx_atS RX3 61 "java/lang/IllegalArgumentException" ["java/lang/RuntimeException", "java/lang/Exception"], w.before _ s = true := vx_hat (B := thW) (fun w h9 => hts w (List.mem_cons_of_mem _ (List.mem_append_right _ h9))) (by decide +kernel) (fun w hw => va_Nw.use (thW_tab w hw) (hXU.1 w hw))
  exact vx_throwS (names := ["java/lang/RuntimeException", "java/lang/Exception"]) (A := fun _ => False) hx hb hlt hown (by decide +kernel) (by decide +kernel) (hts (.classLink RX3 57 "java/lang/IllegalArgumentException") (by decide +kernel)) (hts (.initialized "java/lang/IllegalArgumentException") (by decide +kernel)) hsa hat (by decide +kernel) hXZ.1 hXZ.2 hS (hl.1.trans hml.symm) dX3_trace_26 dX3_trace_29 dX3_trace_30 dX3_trace_32 dX3_trace_35 (fun x h9 => (htb x h9).elim) (Nat.le_of_ble_eq_true rfl) (Nat.le_of_ble_eq_true rfl) (Nat.le_of_ble_eq_true rfl) (Nat.le_of_ble_eq_true rfl) hlocks (fun t ha hz hk9 => thx_of (And.intro (Nat.le_trans hS.1 hz) (fun q h1 h2 => (hk9 q (Nat.lt_of_lt_of_le h1 hS.1)).trans (hS.2.1 q h1 h2)))) (fun z hz => hS.2.2 z hz) (Nat.le_of_ble_eq_true rfl) (Nat.le_of_ble_eq_true rfl)
set_option maxHeartbeats 4000000 in
set_option maxRecDepth 100000 in
theorem c_X3_pointOf_t1 (l : Launch) (D : va_G) (T : Nat → ClassId) (ad : Nat → Nat) (I : Nat → Int32) (R : Nat → Nat → Int32) (hlt : l.stackTraces = false) (v : Int32) (x : Int32) (h1 : outI v 0 7 = 1) : vx_Met l yX3_pointOf wsX3_pointOf ({ frames := 6, cells := 1, slots := 6, locals := 82 }) (va_Pc [.ref (ad 0), .int v, .int x] (XR D T ad I R)) NoR (ThX "java/lang/IndexOutOfBoundsException") 1 6 (fun _ => False) := by
  refine vx_ofW (cc := cX3_pointOf) (maxL := 3) (ret := (some .int)) (by decide) rfl ?_
  intro p e s m args_ below meth c s₁ B hml htb hv
  obtain ⟨rfl, ⟨hP, hK, hN⟩, hXU, hXZ⟩ := hv
  have hx := B.exec
  have hb := B.bytes
  have hr := B.returns
  have hts := atoms_spec (ws := wsX3_pointOf) B.pre
  have hown : s.vm.findClass RX3 = some m.cls := findClass_of_methodNamed B.named
  have hlocks := B.notSynchronized
  have hS : va_S (fun _ => False) s.heap s.heap [] := va_S.rf
  have hl := lv_entry ([.ref (ad 0), .int v, .int x]) (n := 3) (Nat.le_of_ble_eq_true rfl)
  rw [lg_entry_eq]
  generalize (lg_sl ([.ref (ad 0), .int v, .int x]) ++ List.replicate (3 - (lg_sl ([.ref (ad 0), .int v, .int x])).length) Slot.unset).toArray = ls at hl ⊢
  have hl : lv_has ls 3 [(0, .ref (ad 0)), (1, .int v), (2, .int x)] := hl
  refine lv_iload_n hx hb dX3_pointOf_0 rfl (lv_at hl 1 rfl) ?_
  refine cx_ri (va_runS (As := [.int v]) (rest := []) ⟨hx, hb, hml, hown, hts⟩ (c_X3_isNoPlace l  v) (va_cwS 1 hts gX3_pointOf_X3_isNoPlace rfl rfl rfl (by decide +kernel) ⟨Nat.le_of_ble_eq_true rfl, Nat.le_of_ble_eq_true rfl⟩) ⟨pc_blind, (fun U hU hW => ⟨rfl, trivial⟩)⟩ rfl rfl hl.1 rfl (lv_room (Nat.le_of_ble_eq_true rfl)) dX3_pointOf_1 ⟨Nat.le_of_ble_eq_true rfl, Nat.le_of_ble_eq_true rfl⟩) hS hP (fun H locs hP hS => ?_)
  refine cx_top (show (outI v 0 7) = 1 from h1) ?_
  refine lv_if_eq (tgt := 17) hx hb dX3_pointOf_4 (by decide) (fun c_4 => absurd c_4 (by decide)) (fun c_4 => ?_)
  obtain ⟨sa, hsa⟩ := hXU.2 (89, "there is no such point") (List.mem_of_getElem? (i := 4) rfl)
  have hat : ∀ w ∈ vx_atS RX3 50 "java/lang/IndexOutOfBoundsException" ["java/lang/RuntimeException", "java/lang/Exception"], w.before _ s = true := vx_hat (B := thW) (fun w h9 => hts w (List.mem_cons_of_mem _ (List.mem_append_left _ (List.mem_append_right _ h9)))) (by decide +kernel) (fun w hw => va_Nw.use (thW_tab w hw) (hXU.1 w hw))
  exact vx_throwS (names := ["java/lang/RuntimeException", "java/lang/Exception"]) (A := fun _ => False) hx hb hlt hown (by decide +kernel) (by decide +kernel) (hts (.classLink RX3 46 "java/lang/IndexOutOfBoundsException") (by decide +kernel)) (hts (.initialized "java/lang/IndexOutOfBoundsException") (by decide +kernel)) hsa hat (by decide +kernel) hXZ.1 hXZ.2 hS (hl.1.trans hml.symm) dX3_pointOf_7 dX3_pointOf_10 dX3_pointOf_11 dX3_pointOf_13 dX3_pointOf_16 (fun x h9 => (htb x h9).elim) (Nat.le_of_ble_eq_true rfl) (Nat.le_of_ble_eq_true rfl) (Nat.le_of_ble_eq_true rfl) (Nat.le_of_ble_eq_true rfl) hlocks (fun t ha hz hk9 => thx_of (And.intro (Nat.le_trans hS.1 hz) (fun q h1 h2 => (hk9 q (Nat.lt_of_lt_of_le h1 hS.1)).trans (hS.2.1 q h1 h2)))) (fun z hz => hS.2.2 z hz) (Nat.le_of_ble_eq_true rfl) (Nat.le_of_ble_eq_true rfl)
set_option maxHeartbeats 4000000 in
set_option maxRecDepth 100000 in
theorem c_X3_pointOf_t2 (l : Launch) (D : va_G) (T : Nat → ClassId) (ad : Nat → Nat) (I : Nat → Int32) (R : Nat → Nat → Int32) (hlt : l.stackTraces = false) (k : Nat) (x : Int32) (hk : k < 8) (h1 : outI x 0 2 = 1) : vx_Met l yX3_pointOf wsX3_pointOf ({ frames := 6, cells := 1, slots := 6, locals := 82 }) (va_Pc [.ref (ad 0), .int (nI k), .int x] (XR D T ad I R)) NoR (ThX "java/lang/IllegalArgumentException") 1 6 (fun _ => False) := by
  refine vx_ofW (cc := cX3_pointOf) (maxL := 3) (ret := (some .int)) (by decide) rfl ?_
  intro p e s m args_ below meth c s₁ B hml htb hv
  obtain ⟨rfl, ⟨hP, hK, hN⟩, hXU, hXZ⟩ := hv
  have hx := B.exec
  have hb := B.bytes
  have hr := B.returns
  have hts := atoms_spec (ws := wsX3_pointOf) B.pre
  have hown : s.vm.findClass RX3 = some m.cls := findClass_of_methodNamed B.named
  have hlocks := B.notSynchronized
  have hS : va_S (fun _ => False) s.heap s.heap [] := va_S.rf
  have hl := lv_entry ([.ref (ad 0), .int (nI k), .int x]) (n := 3) (Nat.le_of_ble_eq_true rfl)
  rw [lg_entry_eq]
  generalize (lg_sl ([.ref (ad 0), .int (nI k), .int x]) ++ List.replicate (3 - (lg_sl ([.ref (ad 0), .int (nI k), .int x])).length) Slot.unset).toArray = ls at hl ⊢
  have hl : lv_has ls 3 [(0, .ref (ad 0)), (1, .int (nI k)), (2, .int x)] := hl
  refine lv_iload_n hx hb dX3_pointOf_0 rfl (lv_at hl 1 rfl) ?_
  refine cx_ri (va_runS (As := [.int (nI k)]) (rest := []) ⟨hx, hb, hml, hown, hts⟩ (c_X3_isNoPlace l  (nI k)) (va_cwS 1 hts gX3_pointOf_X3_isNoPlace rfl rfl rfl (by decide +kernel) ⟨Nat.le_of_ble_eq_true rfl, Nat.le_of_ble_eq_true rfl⟩) ⟨pc_blind, (fun U hU hW => ⟨rfl, trivial⟩)⟩ rfl rfl hl.1 rfl (lv_room (Nat.le_of_ble_eq_true rfl)) dX3_pointOf_1 ⟨Nat.le_of_ble_eq_true rfl, Nat.le_of_ble_eq_true rfl⟩) hS hP (fun H locs hP hS => ?_)
  refine cx_top (show (outI (nI k) 0 7) = 0 from out_8 hk) ?_
  refine lv_if_eq (tgt := 17) hx hb dX3_pointOf_4 (by decide) (fun c_4 => ?_) (fun c_4 => absurd c_4 (by decide))
  refine lv_iload_n hx hb dX3_pointOf_17 rfl (lv_at hl 2 rfl) ?_
  refine lv_iconst (v := 0) hx hb dX3_pointOf_18 (by decide) ?_
  refine lv_iconst (v := 2) hx hb dX3_pointOf_19 (by decide) ?_
  refine cx_ri (va_runS (As := [.int x, .int 0, .int 2]) (rest := []) ⟨hx, hb, hml, hown, hts⟩ (c_X3_isOutside l  x 0 2) (va_cwS 3 hts gX3_pointOf_X3_isOutside rfl rfl rfl (by decide +kernel) ⟨Nat.le_of_ble_eq_true rfl, Nat.le_of_ble_eq_true rfl⟩) ⟨pc_blind, (fun U hU hW => ⟨rfl, trivial⟩)⟩ rfl rfl hl.1 rfl (lv_room (Nat.le_of_ble_eq_true rfl)) dX3_pointOf_20 ⟨Nat.le_of_ble_eq_true rfl, Nat.le_of_ble_eq_true rfl⟩) hS hP (fun H locs hP hS => ?_)
  refine cx_top (show (outI x 0 2) = 1 from h1) ?_
  refine lv_if_eq (tgt := 36) hx hb dX3_pointOf_23 (by decide) (fun c_23 => absurd c_23 (by decide)) (fun c_23 => ?_)
  obtain ⟨sa, hsa⟩ := hXU.2 (175, "what is not 0 to 2") (List.mem_of_getElem? (i := 9) rfl)
  have hat : ∀ w ∈ vx_atS RX3 61 "java/lang/IllegalArgumentException" ["java/lang/RuntimeException", "java/lang/Exception"], w.before _ s = true := vx_hat (B := thW) (fun w h9 => hts w (List.mem_cons_of_mem _ (List.mem_append_right _ h9))) (by decide +kernel) (fun w hw => va_Nw.use (thW_tab w hw) (hXU.1 w hw))
  exact vx_throwS (names := ["java/lang/RuntimeException", "java/lang/Exception"]) (A := fun _ => False) hx hb hlt hown (by decide +kernel) (by decide +kernel) (hts (.classLink RX3 57 "java/lang/IllegalArgumentException") (by decide +kernel)) (hts (.initialized "java/lang/IllegalArgumentException") (by decide +kernel)) hsa hat (by decide +kernel) hXZ.1 hXZ.2 hS (hl.1.trans hml.symm) dX3_pointOf_26 dX3_pointOf_29 dX3_pointOf_30 dX3_pointOf_32 dX3_pointOf_35 (fun x h9 => (htb x h9).elim) (Nat.le_of_ble_eq_true rfl) (Nat.le_of_ble_eq_true rfl) (Nat.le_of_ble_eq_true rfl) (Nat.le_of_ble_eq_true rfl) hlocks (fun t ha hz hk9 => thx_of (And.intro (Nat.le_trans hS.1 hz) (fun q h1 h2 => (hk9 q (Nat.lt_of_lt_of_le h1 hS.1)).trans (hS.2.1 q h1 h2)))) (fun z hz => hS.2.2 z hz) (Nat.le_of_ble_eq_true rfl) (Nat.le_of_ble_eq_true rfl)
set_option maxHeartbeats 4000000 in
set_option maxRecDepth 100000 in
theorem c_X3_count_t1 (l : Launch) (D : va_G) (T : Nat → ClassId) (ad : Nat → Nat) (I : Nat → Int32) (R : Nat → Nat → Int32) (hlt : l.stackTraces = false) (x : Int32) (h1 : outI x 0 8 = 1) : vx_Met l yX3_count wsX3_count ({ frames := 6, cells := 1, slots := 6, locals := 82 }) (va_Pc [.ref (ad 0), .int x] (XR D T ad I R)) NoR (ThX "java/lang/IllegalArgumentException") 1 6 (fun _ => False) := by
  refine vx_ofW (cc := cX3_count) (maxL := 2) (ret := (some .int)) (by decide) rfl ?_
  intro p e s m args_ below meth c s₁ B hml htb hv
  obtain ⟨rfl, ⟨hP, hK, hN⟩, hXU, hXZ⟩ := hv
  have hx := B.exec
  have hb := B.bytes
  have hr := B.returns
  have hts := atoms_spec (ws := wsX3_count) B.pre
  have hown : s.vm.findClass RX3 = some m.cls := findClass_of_methodNamed B.named
  have hlocks := B.notSynchronized
  have hS : va_S (fun _ => False) s.heap s.heap [] := va_S.rf
  have hl := lv_entry ([.ref (ad 0), .int x]) (n := 2) (Nat.le_of_ble_eq_true rfl)
  rw [lg_entry_eq]
  generalize (lg_sl ([.ref (ad 0), .int x]) ++ List.replicate (2 - (lg_sl ([.ref (ad 0), .int x])).length) Slot.unset).toArray = ls at hl ⊢
  have hl : lv_has ls 2 [(0, .ref (ad 0)), (1, .int x)] := hl
  refine lv_iload_n hx hb dX3_count_0 rfl (lv_at hl 1 rfl) ?_
  refine lv_iconst (v := 0) hx hb dX3_count_1 (by decide) ?_
  refine lv_bipush (v := 8) hx hb dX3_count_2 (by decide) ?_
  refine cx_ri (va_runS (As := [.int x, .int 0, .int 8]) (rest := []) ⟨hx, hb, hml, hown, hts⟩ (c_X3_isOutside l  x 0 8) (va_cwS 3 hts gX3_count_X3_isOutside rfl rfl rfl (by decide +kernel) ⟨Nat.le_of_ble_eq_true rfl, Nat.le_of_ble_eq_true rfl⟩) ⟨pc_blind, (fun U hU hW => ⟨rfl, trivial⟩)⟩ rfl rfl hl.1 rfl (lv_room (Nat.le_of_ble_eq_true rfl)) dX3_count_4 ⟨Nat.le_of_ble_eq_true rfl, Nat.le_of_ble_eq_true rfl⟩) hS hP (fun H locs hP hS => ?_)
  refine cx_top (show (outI x 0 8) = 1 from h1) ?_
  refine lv_if_eq (tgt := 20) hx hb dX3_count_7 (by decide) (fun c_7 => absurd c_7 (by decide)) (fun c_7 => ?_)
  obtain ⟨sa, hsa⟩ := hXU.2 (180, "what is not 0 to 8") (List.mem_of_getElem? (i := 10) rfl)
  have hat : ∀ w ∈ vx_atS RX3 61 "java/lang/IllegalArgumentException" ["java/lang/RuntimeException", "java/lang/Exception"], w.before _ s = true := vx_hat (B := thW) (fun w h9 => hts w (List.mem_cons_of_mem _ (List.mem_append_right _ h9))) (by decide +kernel) (fun w hw => va_Nw.use (thW_tab w hw) (hXU.1 w hw))
  exact vx_throwS (names := ["java/lang/RuntimeException", "java/lang/Exception"]) (A := fun _ => False) hx hb hlt hown (by decide +kernel) (by decide +kernel) (hts (.classLink RX3 57 "java/lang/IllegalArgumentException") (by decide +kernel)) (hts (.initialized "java/lang/IllegalArgumentException") (by decide +kernel)) hsa hat (by decide +kernel) hXZ.1 hXZ.2 hS (hl.1.trans hml.symm) dX3_count_10 dX3_count_13 dX3_count_14 dX3_count_16 dX3_count_19 (fun x h9 => (htb x h9).elim) (Nat.le_of_ble_eq_true rfl) (Nat.le_of_ble_eq_true rfl) (Nat.le_of_ble_eq_true rfl) (Nat.le_of_ble_eq_true rfl) hlocks (fun t ha hz hk9 => thx_of (And.intro (Nat.le_trans hS.1 hz) (fun q h1 h2 => (hk9 q (Nat.lt_of_lt_of_le h1 hS.1)).trans (hS.2.1 q h1 h2)))) (fun z hz => hS.2.2 z hz) (Nat.le_of_ble_eq_true rfl) (Nat.le_of_ble_eq_true rfl)
set_option maxHeartbeats 4000000 in
set_option maxRecDepth 100000 in
theorem c_X3_enough_t1 (l : Launch) (D : va_G) (T : Nat → ClassId) (ad : Nat → Nat) (I : Nat → Int32) (R : Nat → Nat → Int32) (hlt : l.stackTraces = false) (x : Int32) (y : Int32) (h1 : outI x 0 9999999 = 1) : vx_Met l yX3_enough wsX3_enough ({ frames := 6, cells := 1, slots := 6, locals := 82 }) (va_Pc [.ref (ad 0), .int x, .int y] (XR D T ad I R)) NoR (ThX "java/lang/IllegalArgumentException") 1 6 (fun _ => False) := by
  refine vx_ofW (cc := cX3_enough) (maxL := 3) (ret := (some .int)) (by decide) rfl ?_
  intro p e s m args_ below meth c s₁ B hml htb hv
  obtain ⟨rfl, ⟨hP, hK, hN⟩, hXU, hXZ⟩ := hv
  have hx := B.exec
  have hb := B.bytes
  have hr := B.returns
  have hts := atoms_spec (ws := wsX3_enough) B.pre
  have hown : s.vm.findClass RX3 = some m.cls := findClass_of_methodNamed B.named
  have hlocks := B.notSynchronized
  have hS : va_S (fun _ => False) s.heap s.heap [] := va_S.rf
  have hl := lv_entry ([.ref (ad 0), .int x, .int y]) (n := 3) (Nat.le_of_ble_eq_true rfl)
  rw [lg_entry_eq]
  generalize (lg_sl ([.ref (ad 0), .int x, .int y]) ++ List.replicate (3 - (lg_sl ([.ref (ad 0), .int x, .int y])).length) Slot.unset).toArray = ls at hl ⊢
  have hl : lv_has ls 3 [(0, .ref (ad 0)), (1, .int x), (2, .int y)] := hl
  refine lv_iload_n hx hb dX3_enough_0 rfl (lv_at hl 1 rfl) ?_
  refine lv_iconst (v := 0) hx hb dX3_enough_1 (by decide) ?_
  refine lv_ldc (v := 9999999) hx hb hown (hts (.constant RX3 192 (9999999)) (by decide +kernel)) dX3_enough_2 ?_
  refine cx_ri (va_runS (As := [.int x, .int 0, .int 9999999]) (rest := []) ⟨hx, hb, hml, hown, hts⟩ (c_X3_isOutside l  x 0 9999999) (va_cwS 3 hts gX3_enough_X3_isOutside rfl rfl rfl (by decide +kernel) ⟨Nat.le_of_ble_eq_true rfl, Nat.le_of_ble_eq_true rfl⟩) ⟨pc_blind, (fun U hU hW => ⟨rfl, trivial⟩)⟩ rfl rfl hl.1 rfl (lv_room (Nat.le_of_ble_eq_true rfl)) dX3_enough_4 ⟨Nat.le_of_ble_eq_true rfl, Nat.le_of_ble_eq_true rfl⟩) hS hP (fun H locs hP hS => ?_)
  refine cx_top (show (outI x 0 9999999) = 1 from h1) ?_
  refine lv_if_eq (tgt := 20) hx hb dX3_enough_7 (by decide) (fun c_7 => absurd c_7 (by decide)) (fun c_7 => ?_)
  obtain ⟨sa, hsa⟩ := hXU.2 (193, "the error is out of range") (List.mem_of_getElem? (i := 11) rfl)
  have hat : ∀ w ∈ vx_atS RX3 61 "java/lang/IllegalArgumentException" ["java/lang/RuntimeException", "java/lang/Exception"], w.before _ s = true := vx_hat (B := thW) (fun w h9 => hts w (List.mem_cons_of_mem _ (List.mem_append_right _ h9))) (by decide +kernel) (fun w hw => va_Nw.use (thW_tab w hw) (hXU.1 w hw))
  exact vx_throwS (names := ["java/lang/RuntimeException", "java/lang/Exception"]) (A := fun _ => False) hx hb hlt hown (by decide +kernel) (by decide +kernel) (hts (.classLink RX3 57 "java/lang/IllegalArgumentException") (by decide +kernel)) (hts (.initialized "java/lang/IllegalArgumentException") (by decide +kernel)) hsa hat (by decide +kernel) hXZ.1 hXZ.2 hS (hl.1.trans hml.symm) dX3_enough_10 dX3_enough_13 dX3_enough_14 dX3_enough_16 dX3_enough_19 (fun x h9 => (htb x h9).elim) (Nat.le_of_ble_eq_true rfl) (Nat.le_of_ble_eq_true rfl) (Nat.le_of_ble_eq_true rfl) (Nat.le_of_ble_eq_true rfl) hlocks (fun t ha hz hk9 => thx_of (And.intro (Nat.le_trans hS.1 hz) (fun q h1 h2 => (hk9 q (Nat.lt_of_lt_of_le h1 hS.1)).trans (hS.2.1 q h1 h2)))) (fun z hz => hS.2.2 z hz) (Nat.le_of_ble_eq_true rfl) (Nat.le_of_ble_eq_true rfl)
set_option maxHeartbeats 4000000 in
set_option maxRecDepth 100000 in
theorem c_X3_enough_t2 (l : Launch) (D : va_G) (T : Nat → ClassId) (ad : Nat → Nat) (I : Nat → Int32) (R : Nat → Nat → Int32) (hlt : l.stackTraces = false) (x : Int32) (y : Int32) (hx9 : outI x 0 9999999 = 0) (h1 : outI y 0 1 = 1) : vx_Met l yX3_enough wsX3_enough ({ frames := 6, cells := 1, slots := 6, locals := 82 }) (va_Pc [.ref (ad 0), .int x, .int y] (XR D T ad I R)) NoR (ThX "java/lang/IllegalArgumentException") 1 6 (fun _ => False) := by
  refine vx_ofW (cc := cX3_enough) (maxL := 3) (ret := (some .int)) (by decide) rfl ?_
  intro p e s m args_ below meth c s₁ B hml htb hv
  obtain ⟨rfl, ⟨hP, hK, hN⟩, hXU, hXZ⟩ := hv
  have hx := B.exec
  have hb := B.bytes
  have hr := B.returns
  have hts := atoms_spec (ws := wsX3_enough) B.pre
  have hown : s.vm.findClass RX3 = some m.cls := findClass_of_methodNamed B.named
  have hlocks := B.notSynchronized
  have hS : va_S (fun _ => False) s.heap s.heap [] := va_S.rf
  have hl := lv_entry ([.ref (ad 0), .int x, .int y]) (n := 3) (Nat.le_of_ble_eq_true rfl)
  rw [lg_entry_eq]
  generalize (lg_sl ([.ref (ad 0), .int x, .int y]) ++ List.replicate (3 - (lg_sl ([.ref (ad 0), .int x, .int y])).length) Slot.unset).toArray = ls at hl ⊢
  have hl : lv_has ls 3 [(0, .ref (ad 0)), (1, .int x), (2, .int y)] := hl
  refine lv_iload_n hx hb dX3_enough_0 rfl (lv_at hl 1 rfl) ?_
  refine lv_iconst (v := 0) hx hb dX3_enough_1 (by decide) ?_
  refine lv_ldc (v := 9999999) hx hb hown (hts (.constant RX3 192 (9999999)) (by decide +kernel)) dX3_enough_2 ?_
  refine cx_ri (va_runS (As := [.int x, .int 0, .int 9999999]) (rest := []) ⟨hx, hb, hml, hown, hts⟩ (c_X3_isOutside l  x 0 9999999) (va_cwS 3 hts gX3_enough_X3_isOutside rfl rfl rfl (by decide +kernel) ⟨Nat.le_of_ble_eq_true rfl, Nat.le_of_ble_eq_true rfl⟩) ⟨pc_blind, (fun U hU hW => ⟨rfl, trivial⟩)⟩ rfl rfl hl.1 rfl (lv_room (Nat.le_of_ble_eq_true rfl)) dX3_enough_4 ⟨Nat.le_of_ble_eq_true rfl, Nat.le_of_ble_eq_true rfl⟩) hS hP (fun H locs hP hS => ?_)
  refine cx_top (show (outI x 0 9999999) = 0 from hx9) ?_
  refine lv_if_eq (tgt := 20) hx hb dX3_enough_7 (by decide) (fun c_7 => ?_) (fun c_7 => absurd c_7 (by decide))
  refine lv_iload_n hx hb dX3_enough_20 rfl (lv_at hl 2 rfl) ?_
  refine lv_iconst (v := 0) hx hb dX3_enough_21 (by decide) ?_
  refine lv_iconst (v := 1) hx hb dX3_enough_22 (by decide) ?_
  refine cx_ri (va_runS (As := [.int y, .int 0, .int 1]) (rest := []) ⟨hx, hb, hml, hown, hts⟩ (c_X3_isOutside l  y 0 1) (va_cwS 3 hts gX3_enough_X3_isOutside rfl rfl rfl (by decide +kernel) ⟨Nat.le_of_ble_eq_true rfl, Nat.le_of_ble_eq_true rfl⟩) ⟨pc_blind, (fun U hU hW => ⟨rfl, trivial⟩)⟩ rfl rfl hl.1 rfl (lv_room (Nat.le_of_ble_eq_true rfl)) dX3_enough_23 ⟨Nat.le_of_ble_eq_true rfl, Nat.le_of_ble_eq_true rfl⟩) hS hP (fun H locs hP hS => ?_)
  refine cx_top (show (outI y 0 1) = 1 from h1) ?_
  refine lv_if_eq (tgt := 39) hx hb dX3_enough_26 (by decide) (fun c_26 => absurd c_26 (by decide)) (fun c_26 => ?_)
  obtain ⟨sa, hsa⟩ := hXU.2 (170, "what is not 0 or 1") (List.mem_of_getElem? (i := 8) rfl)
  have hat : ∀ w ∈ vx_atS RX3 61 "java/lang/IllegalArgumentException" ["java/lang/RuntimeException", "java/lang/Exception"], w.before _ s = true := vx_hat (B := thW) (fun w h9 => hts w (List.mem_cons_of_mem _ (List.mem_append_right _ h9))) (by decide +kernel) (fun w hw => va_Nw.use (thW_tab w hw) (hXU.1 w hw))
  exact vx_throwS (names := ["java/lang/RuntimeException", "java/lang/Exception"]) (A := fun _ => False) hx hb hlt hown (by decide +kernel) (by decide +kernel) (hts (.classLink RX3 57 "java/lang/IllegalArgumentException") (by decide +kernel)) (hts (.initialized "java/lang/IllegalArgumentException") (by decide +kernel)) hsa hat (by decide +kernel) hXZ.1 hXZ.2 hS (hl.1.trans hml.symm) dX3_enough_29 dX3_enough_32 dX3_enough_33 dX3_enough_35 dX3_enough_38 (fun x h9 => (htb x h9).elim) (Nat.le_of_ble_eq_true rfl) (Nat.le_of_ble_eq_true rfl) (Nat.le_of_ble_eq_true rfl) (Nat.le_of_ble_eq_true rfl) hlocks (fun t ha hz hk9 => thx_of (And.intro (Nat.le_trans hS.1 hz) (fun q h1 h2 => (hk9 q (Nat.lt_of_lt_of_le h1 hS.1)).trans (hS.2.1 q h1 h2)))) (fun z hz => hS.2.2 z hz) (Nat.le_of_ble_eq_true rfl) (Nat.le_of_ble_eq_true rfl)
set_option maxHeartbeats 4000000 in
set_option maxRecDepth 100000 in
theorem c_X3_ifTurned_t1 (l : Launch) (D : va_G) (T : Nat → ClassId) (ad : Nat → Nat) (I : Nat → Int32) (R : Nat → Nat → Int32) (hlt : l.stackTraces = false) (x : Int32) (v : Int32) (h1 : outI v 0 7 = 1) : vx_Met l yX3_ifTurned wsX3_ifTurned ({ frames := 6, cells := 1, slots := 6, locals := 82 }) (va_Pc [.ref (ad 0), .int x, .int v] (XR D T ad I R)) NoR (ThX "java/lang/IndexOutOfBoundsException") 1 6 (fun _ => False) := by
  refine vx_ofW (cc := cX3_ifTurned) (maxL := 3) (ret := (some .int)) (by decide) rfl ?_
  intro p e s m args_ below meth c s₁ B hml htb hv
  obtain ⟨rfl, ⟨hP, hK, hN⟩, hXU, hXZ⟩ := hv
  have hx := B.exec
  have hb := B.bytes
  have hr := B.returns
  have hts := atoms_spec (ws := wsX3_ifTurned) B.pre
  have hown : s.vm.findClass RX3 = some m.cls := findClass_of_methodNamed B.named
  have hlocks := B.notSynchronized
  have hS : va_S (fun _ => False) s.heap s.heap [] := va_S.rf
  have hl := lv_entry ([.ref (ad 0), .int x, .int v]) (n := 3) (Nat.le_of_ble_eq_true rfl)
  rw [lg_entry_eq]
  generalize (lg_sl ([.ref (ad 0), .int x, .int v]) ++ List.replicate (3 - (lg_sl ([.ref (ad 0), .int x, .int v])).length) Slot.unset).toArray = ls at hl ⊢
  have hl : lv_has ls 3 [(0, .ref (ad 0)), (1, .int x), (2, .int v)] := hl
  refine lv_iload_n hx hb dX3_ifTurned_0 rfl (lv_at hl 2 rfl) ?_
  refine cx_ri (va_runS (As := [.int v]) (rest := []) ⟨hx, hb, hml, hown, hts⟩ (c_X3_isNoPlace l  v) (va_cwS 1 hts gX3_ifTurned_X3_isNoPlace rfl rfl rfl (by decide +kernel) ⟨Nat.le_of_ble_eq_true rfl, Nat.le_of_ble_eq_true rfl⟩) ⟨pc_blind, (fun U hU hW => ⟨rfl, trivial⟩)⟩ rfl rfl hl.1 rfl (lv_room (Nat.le_of_ble_eq_true rfl)) dX3_ifTurned_1 ⟨Nat.le_of_ble_eq_true rfl, Nat.le_of_ble_eq_true rfl⟩) hS hP (fun H locs hP hS => ?_)
  refine cx_top (show (outI v 0 7) = 1 from h1) ?_
  refine lv_if_eq (tgt := 17) hx hb dX3_ifTurned_4 (by decide) (fun c_4 => absurd c_4 (by decide)) (fun c_4 => ?_)
  obtain ⟨sa, hsa⟩ := hXU.2 (89, "there is no such point") (List.mem_of_getElem? (i := 4) rfl)
  have hat : ∀ w ∈ vx_atS RX3 50 "java/lang/IndexOutOfBoundsException" ["java/lang/RuntimeException", "java/lang/Exception"], w.before _ s = true := vx_hat (B := thW) (fun w h9 => hts w (List.mem_cons_of_mem _ (List.mem_append_left _ (List.mem_append_right _ h9)))) (by decide +kernel) (fun w hw => va_Nw.use (thW_tab w hw) (hXU.1 w hw))
  exact vx_throwS (names := ["java/lang/RuntimeException", "java/lang/Exception"]) (A := fun _ => False) hx hb hlt hown (by decide +kernel) (by decide +kernel) (hts (.classLink RX3 46 "java/lang/IndexOutOfBoundsException") (by decide +kernel)) (hts (.initialized "java/lang/IndexOutOfBoundsException") (by decide +kernel)) hsa hat (by decide +kernel) hXZ.1 hXZ.2 hS (hl.1.trans hml.symm) dX3_ifTurned_7 dX3_ifTurned_10 dX3_ifTurned_11 dX3_ifTurned_13 dX3_ifTurned_16 (fun x h9 => (htb x h9).elim) (Nat.le_of_ble_eq_true rfl) (Nat.le_of_ble_eq_true rfl) (Nat.le_of_ble_eq_true rfl) (Nat.le_of_ble_eq_true rfl) hlocks (fun t ha hz hk9 => thx_of (And.intro (Nat.le_trans hS.1 hz) (fun q h1 h2 => (hk9 q (Nat.lt_of_lt_of_le h1 hS.1)).trans (hS.2.1 q h1 h2)))) (fun z hz => hS.2.2 z hz) (Nat.le_of_ble_eq_true rfl) (Nat.le_of_ble_eq_true rfl)
set_option maxHeartbeats 4000000 in
set_option maxRecDepth 100000 in
theorem c_X3_ifTurned_t2 (l : Launch) (D : va_G) (T : Nat → ClassId) (ad : Nat → Nat) (I : Nat → Int32) (R : Nat → Nat → Int32) (hlt : l.stackTraces = false) (x : Int32) (k : Nat) (hk : k < 8) (h1 : outI x 0 7 = 1) : vx_Met l yX3_ifTurned wsX3_ifTurned ({ frames := 6, cells := 1, slots := 6, locals := 82 }) (va_Pc [.ref (ad 0), .int x, .int (nI k)] (XR D T ad I R)) NoR (ThX "java/lang/IllegalArgumentException") 1 6 (fun _ => False) := by
  refine vx_ofW (cc := cX3_ifTurned) (maxL := 3) (ret := (some .int)) (by decide) rfl ?_
  intro p e s m args_ below meth c s₁ B hml htb hv
  obtain ⟨rfl, ⟨hP, hK, hN⟩, hXU, hXZ⟩ := hv
  have hx := B.exec
  have hb := B.bytes
  have hr := B.returns
  have hts := atoms_spec (ws := wsX3_ifTurned) B.pre
  have hown : s.vm.findClass RX3 = some m.cls := findClass_of_methodNamed B.named
  have hlocks := B.notSynchronized
  have hS : va_S (fun _ => False) s.heap s.heap [] := va_S.rf
  have hl := lv_entry ([.ref (ad 0), .int x, .int (nI k)]) (n := 3) (Nat.le_of_ble_eq_true rfl)
  rw [lg_entry_eq]
  generalize (lg_sl ([.ref (ad 0), .int x, .int (nI k)]) ++ List.replicate (3 - (lg_sl ([.ref (ad 0), .int x, .int (nI k)])).length) Slot.unset).toArray = ls at hl ⊢
  have hl : lv_has ls 3 [(0, .ref (ad 0)), (1, .int x), (2, .int (nI k))] := hl
  refine lv_iload_n hx hb dX3_ifTurned_0 rfl (lv_at hl 2 rfl) ?_
  refine cx_ri (va_runS (As := [.int (nI k)]) (rest := []) ⟨hx, hb, hml, hown, hts⟩ (c_X3_isNoPlace l  (nI k)) (va_cwS 1 hts gX3_ifTurned_X3_isNoPlace rfl rfl rfl (by decide +kernel) ⟨Nat.le_of_ble_eq_true rfl, Nat.le_of_ble_eq_true rfl⟩) ⟨pc_blind, (fun U hU hW => ⟨rfl, trivial⟩)⟩ rfl rfl hl.1 rfl (lv_room (Nat.le_of_ble_eq_true rfl)) dX3_ifTurned_1 ⟨Nat.le_of_ble_eq_true rfl, Nat.le_of_ble_eq_true rfl⟩) hS hP (fun H locs hP hS => ?_)
  refine cx_top (show (outI (nI k) 0 7) = 0 from out_8 hk) ?_
  refine lv_if_eq (tgt := 17) hx hb dX3_ifTurned_4 (by decide) (fun c_4 => ?_) (fun c_4 => absurd c_4 (by decide))
  refine lv_iload_n hx hb dX3_ifTurned_17 rfl (lv_at hl 1 rfl) ?_
  refine cx_ri (va_runS (As := [.int x]) (rest := []) ⟨hx, hb, hml, hown, hts⟩ (c_X3_isNoPlace l  x) (va_cwS 1 hts gX3_ifTurned_X3_isNoPlace rfl rfl rfl (by decide +kernel) ⟨Nat.le_of_ble_eq_true rfl, Nat.le_of_ble_eq_true rfl⟩) ⟨pc_blind, (fun U hU hW => ⟨rfl, trivial⟩)⟩ rfl rfl hl.1 rfl (lv_room (Nat.le_of_ble_eq_true rfl)) dX3_ifTurned_18 ⟨Nat.le_of_ble_eq_true rfl, Nat.le_of_ble_eq_true rfl⟩) hS hP (fun H locs hP hS => ?_)
  refine cx_top (show (outI x 0 7) = 1 from h1) ?_
  refine lv_if_eq (tgt := 34) hx hb dX3_ifTurned_21 (by decide) (fun c_21 => absurd c_21 (by decide)) (fun c_21 => ?_)
  obtain ⟨sa, hsa⟩ := hXU.2 (75, "by is out of range") (List.mem_of_getElem? (i := 2) rfl)
  have hat : ∀ w ∈ vx_atS RX3 61 "java/lang/IllegalArgumentException" ["java/lang/RuntimeException", "java/lang/Exception"], w.before _ s = true := vx_hat (B := thW) (fun w h9 => hts w (List.mem_cons_of_mem _ (List.mem_append_right _ h9))) (by decide +kernel) (fun w hw => va_Nw.use (thW_tab w hw) (hXU.1 w hw))
  exact vx_throwS (names := ["java/lang/RuntimeException", "java/lang/Exception"]) (A := fun _ => False) hx hb hlt hown (by decide +kernel) (by decide +kernel) (hts (.classLink RX3 57 "java/lang/IllegalArgumentException") (by decide +kernel)) (hts (.initialized "java/lang/IllegalArgumentException") (by decide +kernel)) hsa hat (by decide +kernel) hXZ.1 hXZ.2 hS (hl.1.trans hml.symm) dX3_ifTurned_24 dX3_ifTurned_27 dX3_ifTurned_28 dX3_ifTurned_30 dX3_ifTurned_33 (fun x h9 => (htb x h9).elim) (Nat.le_of_ble_eq_true rfl) (Nat.le_of_ble_eq_true rfl) (Nat.le_of_ble_eq_true rfl) (Nat.le_of_ble_eq_true rfl) hlocks (fun t ha hz hk9 => thx_of (And.intro (Nat.le_trans hS.1 hz) (fun q h1 h2 => (hk9 q (Nat.lt_of_lt_of_le h1 hS.1)).trans (hS.2.1 q h1 h2)))) (fun z hz => hS.2.2 z hz) (Nat.le_of_ble_eq_true rfl) (Nat.le_of_ble_eq_true rfl)

set_option maxHeartbeats 4000000 in
set_option maxRecDepth 100000 in
theorem c_X4_in (l : Launch) (v : Int32) (a : Int32) (b : Int32) : Met l yX4_in wsX4_in ({ frames := 0, cells := 0, slots := 0, locals := 0 }) (va_Pc [.int v, .int a, .int b] (fun _ => True)) (RqI (inI v a b)) 0 0 (fun _ => False) := by
  refine Met.ofW (cc := cX4_in) (maxL := 3) (ret := (some .boolean)) (by decide) rfl ?_
  intro p e s m args_ below meth c s₁ B hml hv
  obtain ⟨rfl, -⟩ := hv
  have hP : va_P ((fun _ => 0), (fun _ _ => 0)) [] [] s.heap := fun k q h => by simp at h
  have hx := B.exec
  have hb := B.bytes
  have hr := B.returns
  have hts := atoms_spec (ws := wsX4_in) B.pre
  have hown : s.vm.findClass RX4 = some m.cls := findClass_of_methodNamed B.named
  have hlocks := B.notSynchronized
  have hS : va_S (fun _ => False) s.heap s.heap [] := va_S.rf
  have hl := lv_entry ([.int v, .int a, .int b]) (n := 3) (Nat.le_of_ble_eq_true rfl)
  rw [lg_entry_eq]
  generalize (lg_sl ([.int v, .int a, .int b]) ++ List.replicate (3 - (lg_sl ([.int v, .int a, .int b])).length) Slot.unset).toArray = ls at hl ⊢
  have hl : lv_has ls 3 [(0, .int v), (1, .int a), (2, .int b)] := hl
  refine lv_iload_n hx hb dX4_in_0 rfl (lv_at hl 0 rfl) ?_
  refine lv_iload_n hx hb dX4_in_1 rfl (lv_at hl 1 rfl) ?_
  refine lv_icmp_lt (tgt := 14) hx hb dX4_in_2 (by decide) (fun c_2 => ?_) (fun c_2 => ?_)
  · refine lv_iconst (v := 0) hx hb dX4_in_14 (by decide) ?_
    exact W.zret (v := 0) hx hb hr (rfl) (fun t ht hW => ⟨⟨0, (), rfl, (by first | exact in_a c_2 | exact in_b c_2 c_7 | exact in_c c_2 c_7), trivial⟩, hS.F ht⟩) hS.2.2 dX4_in_15
  · refine lv_iload_n hx hb dX4_in_5 rfl (lv_at hl 0 rfl) ?_
    refine lv_iload_n hx hb dX4_in_6 rfl (lv_at hl 2 rfl) ?_
    refine lv_icmp_gt (tgt := 14) hx hb dX4_in_7 (by decide) (fun c_7 => ?_) (fun c_7 => ?_)
    · refine lv_iconst (v := 0) hx hb dX4_in_14 (by decide) ?_
      exact W.zret (v := 0) hx hb hr (rfl) (fun t ht hW => ⟨⟨0, (), rfl, (by first | exact in_a c_2 | exact in_b c_2 c_7 | exact in_c c_2 c_7), trivial⟩, hS.F ht⟩) hS.2.2 dX4_in_15
    · refine lv_iconst (v := 1) hx hb dX4_in_10 (by decide) ?_
      refine lv_goto (tgt := 15) hx hb dX4_in_11 (by decide) ?_
      exact W.zret (v := 1) hx hb hr (rfl) (fun t ht hW => ⟨⟨1, (), rfl, (by first | exact in_a c_2 | exact in_b c_2 c_7 | exact in_c c_2 c_7), trivial⟩, hS.F ht⟩) hS.2.2 dX4_in_15
set_option maxHeartbeats 4000000 in
set_option maxRecDepth 100000 in
theorem c_X4_isOne (l : Launch) (v : Int32) : Met l yX4_isOne wsX4_isOne ({ frames := 1, cells := 0, slots := 0, locals := 22 }) (va_Pc [.int v] (fun _ => True)) (RqI (inI v 0 7)) 0 0 (fun _ => False) := by
  refine Met.ofW (cc := cX4_isOne) (maxL := 1) (ret := (some .boolean)) (by decide) rfl ?_
  intro p e s m args_ below meth c s₁ B hml hv
  obtain ⟨rfl, -⟩ := hv
  have hP : va_P ((fun _ => 0), (fun _ _ => 0)) [] [] s.heap := fun k q h => by simp at h
  have hx := B.exec
  have hb := B.bytes
  have hr := B.returns
  have hts := atoms_spec (ws := wsX4_isOne) B.pre
  have hown : s.vm.findClass RX4 = some m.cls := findClass_of_methodNamed B.named
  have hlocks := B.notSynchronized
  have hS : va_S (fun _ => False) s.heap s.heap [] := va_S.rf
  have hl := lv_entry ([.int v]) (n := 1) (Nat.le_of_ble_eq_true rfl)
  rw [lg_entry_eq]
  generalize (lg_sl ([.int v]) ++ List.replicate (1 - (lg_sl ([.int v])).length) Slot.unset).toArray = ls at hl ⊢
  have hl : lv_has ls 1 [(0, .int v)] := hl
  refine lv_iload_n hx hb dX4_isOne_0 rfl (lv_at hl 0 rfl) ?_
  refine lv_iconst (v := 0) hx hb dX4_isOne_1 (by decide) ?_
  refine lv_bipush (v := 7) hx hb dX4_isOne_2 (by decide) ?_
  refine cx_ri (va_runS (As := [.int v, .int 0, .int 7]) (rest := []) ⟨hx, hb, hml, hown, hts⟩ (c_X4_in l  v 0 7) (va_cwS 3 hts gX4_isOne_X4_in rfl rfl rfl (by decide +kernel) ⟨Nat.le_of_ble_eq_true rfl, Nat.le_of_ble_eq_true rfl⟩) ⟨pc_blind, (fun U hU hW => ⟨rfl, trivial⟩)⟩ rfl rfl hl.1 rfl (lv_room (Nat.le_of_ble_eq_true rfl)) dX4_isOne_4 ⟨Nat.le_of_ble_eq_true rfl, Nat.le_of_ble_eq_true rfl⟩) hS hP (fun H locs hP hS => ?_)
  exact W.zret (v := (inI v 0 7)) hx hb hr (nar01 (in_01 _ _ _)) (fun t ht hW => ⟨⟨(inI v 0 7), (), rfl, (rfl), trivial⟩, hS.F ht⟩) hS.2.2 dX4_isOne_7
set_option maxHeartbeats 4000000 in
set_option maxRecDepth 100000 in
theorem c_X4_amount (l : Launch) (v : Int32) : Met l yX4_amount wsX4_amount ({ frames := 0, cells := 0, slots := 0, locals := 0 }) (va_Pc [.int v] (fun _ => True)) (RqI (abI v)) 0 0 (fun _ => False) := by
  refine Met.ofW (cc := cX4_amount) (maxL := 1) (ret := (some .int)) (by decide) rfl ?_
  intro p e s m args_ below meth c s₁ B hml hv
  obtain ⟨rfl, -⟩ := hv
  have hP : va_P ((fun _ => 0), (fun _ _ => 0)) [] [] s.heap := fun k q h => by simp at h
  have hx := B.exec
  have hb := B.bytes
  have hr := B.returns
  have hts := atoms_spec (ws := wsX4_amount) B.pre
  have hown : s.vm.findClass RX4 = some m.cls := findClass_of_methodNamed B.named
  have hlocks := B.notSynchronized
  have hS : va_S (fun _ => False) s.heap s.heap [] := va_S.rf
  have hl := lv_entry ([.int v]) (n := 1) (Nat.le_of_ble_eq_true rfl)
  rw [lg_entry_eq]
  generalize (lg_sl ([.int v]) ++ List.replicate (1 - (lg_sl ([.int v])).length) Slot.unset).toArray = ls at hl ⊢
  have hl : lv_has ls 1 [(0, .int v)] := hl
  refine lv_iload_n hx hb dX4_amount_0 rfl (lv_at hl 0 rfl) ?_
  refine lv_if_ge (tgt := 9) hx hb dX4_amount_1 (by decide) (fun c_1 => ?_) (fun c_1 => ?_)
  · refine lv_iload_n hx hb dX4_amount_9 rfl (lv_at hl 0 rfl) ?_
    exact W.iret (v := v) hx hb hr (fun t ht hW => ⟨⟨v, (), rfl, (by first | exact ab_a c_1 | exact ab_b c_1), trivial⟩, hS.F ht⟩) hS.2.2 dX4_amount_10
  · refine lv_iload_n hx hb dX4_amount_4 rfl (lv_at hl 0 rfl) ?_
    refine lv_ineg hx hb dX4_amount_5 ?_
    refine lv_goto (tgt := 10) hx hb dX4_amount_6 (by decide) ?_
    exact W.iret (v := (-v)) hx hb hr (fun t ht hW => ⟨⟨(-v), (), rfl, (by first | exact ab_a c_1 | exact ab_b c_1), trivial⟩, hS.F ht⟩) hS.2.2 dX4_amount_10
set_option maxHeartbeats 4000000 in
set_option maxRecDepth 100000 in
theorem c_X4_wave (l : Launch) (k : Nat) (n : Nat) (hk : k < 8) (hn : n < 8) : Met l yX4_wave wsX4_wave ({ frames := 0, cells := 0, slots := 0, locals := 0 }) (va_Pc [.int (nI k), .int (nI n)] (fun _ => True)) (RqI (wv k n)) 0 0 (fun _ => False) := by
  refine Met.ofW (cc := cX4_wave) (maxL := 3) (ret := (some .int)) (by decide) rfl ?_
  intro p e s m args_ below meth c s₁ B hml hv
  obtain ⟨rfl, -⟩ := hv
  have hP : va_P ((fun _ => 0), (fun _ _ => 0)) [] [] s.heap := fun k q h => by simp at h
  have hx := B.exec
  have hb := B.bytes
  have hr := B.returns
  have hts := atoms_spec (ws := wsX4_wave) B.pre
  have hown : s.vm.findClass RX4 = some m.cls := findClass_of_methodNamed B.named
  have hlocks := B.notSynchronized
  have hS : va_S (fun _ => False) s.heap s.heap [] := va_S.rf
  have hl := lv_entry ([.int (nI k), .int (nI n)]) (n := 3) (Nat.le_of_ble_eq_true rfl)
  rw [lg_entry_eq]
  generalize (lg_sl ([.int (nI k), .int (nI n)]) ++ List.replicate (3 - (lg_sl ([.int (nI k), .int (nI n)])).length) Slot.unset).toArray = ls at hl ⊢
  have hl : lv_has ls 3 [(0, .int (nI k)), (1, .int (nI n))] := hl
  refine lv_iload_n hx hb dX4_wave_0 rfl (lv_at hl 0 rfl) ?_
  refine lv_iload_n hx hb dX4_wave_1 rfl (lv_at hl 1 rfl) ?_
  refine lv_iand hx hb dX4_wave_2 ?_
  refine lv_istore_n (lv' := [(2, .int ((nI k) &&& (nI n))), (0, .int (nI k)), (1, .int (nI n))]) hx hb dX4_wave_3 rfl hl (by decide) rfl (fun ls hl => ?_)
  refine lv_iload_n hx hb dX4_wave_4 rfl (lv_at hl 0 rfl) ?_
  refine lv_iload_n hx hb dX4_wave_5 rfl (lv_at hl 0 rfl) ?_
  refine lv_iconst (v := 1) hx hb dX4_wave_6 (by decide) ?_
  refine lv_ishr hx hb dX4_wave_7 ?_
  refine lv_ixor hx hb dX4_wave_8 ?_
  refine lv_iload_n hx hb dX4_wave_9 rfl (lv_at hl 0 rfl) ?_
  refine lv_iconst (v := 2) hx hb dX4_wave_10 (by decide) ?_
  refine lv_ishr hx hb dX4_wave_11 ?_
  refine lv_ixor hx hb dX4_wave_12 ?_
  refine lv_iconst (v := 1) hx hb dX4_wave_13 (by decide) ?_
  refine lv_iand hx hb dX4_wave_14 ?_
  refine lv_if_ne (tgt := 22) hx hb dX4_wave_15 (by decide) (fun c_15 => ?_) (fun c_15 => ?_)
  · refine lv_iconst (v := (-1)) hx hb dX4_wave_22 (by decide) ?_
    exact W.iret (v := (-1)) hx hb hr (fun t ht hW => ⟨⟨(-1), (), rfl, (by first | exact wvm_t hk hn c_15 | exact wvm_f hk hn c_15), trivial⟩, hS.F ht⟩) hS.2.2 dX4_wave_23
  · refine lv_iconst (v := 1) hx hb dX4_wave_18 (by decide) ?_
    refine lv_goto (tgt := 23) hx hb dX4_wave_19 (by decide) ?_
    exact W.iret (v := 1) hx hb hr (fun t ht hW => ⟨⟨1, (), rfl, (by first | exact wvm_t hk hn c_15 | exact wvm_f hk hn c_15), trivial⟩, hS.F ht⟩) hS.2.2 dX4_wave_23
set_option maxHeartbeats 4000000 in
set_option maxRecDepth 100000 in
theorem c_X4_thrown (l : Launch) (D : va_G) (T : Nat → ClassId) (ad : Nat → Nat) (I : Nat → Int32) (R : Nat → Nat → Int32) : Met l yX4_thrown wsX4_thrown ({ frames := 0, cells := 0, slots := 0, locals := 0 }) (va_Pc [.ref (ad 0)] (MR D T ad I R)) (RqI (I 0)) 0 0 (fun _ => False) := by
  refine Met.ofW (cc := cX4_thrown) (maxL := 1) (ret := (some .int)) (by decide) rfl ?_
  intro p e s m args_ below meth c s₁ B hml hv
  obtain ⟨rfl, hP, hK⟩ := hv
  have hx := B.exec
  have hb := B.bytes
  have hr := B.returns
  have hts := atoms_spec (ws := wsX4_thrown) B.pre
  have hown : s.vm.findClass RX4 = some m.cls := findClass_of_methodNamed B.named
  have hlocks := B.notSynchronized
  have hinX4 : ∀ w ∈ u_ws RX4 TX4 12, w ∈ wsX4_thrown := by decide +kernel
  have hS : va_S (fun _ => False) s.heap s.heap [] := va_S.rf
  have hl := lv_entry ([.ref (ad 0)]) (n := 1) (Nat.le_of_ble_eq_true rfl)
  rw [lg_entry_eq]
  generalize (lg_sl ([.ref (ad 0)]) ++ List.replicate (1 - (lg_sl ([.ref (ad 0)])).length) Slot.unset).toArray = ls at hl ⊢
  have hl : lv_has ls 1 [(0, .ref (ad 0))] := hl
  refine lv_aload_n hx hb dX4_thrown_0 rfl (lv_at hl 0 rfl) ?_
  refine va_get (D := D) (ci := 4) (v := .int (I 0)) (C := RX4) (T := TX4) (N := 12) hx hb hts hinX4 hown hK hP 0 mw_0 rfl 0 (by decide) (hts (.fieldLink RX4 29 "SquareGearsModel" "thrown" "I") (by decide +kernel)) (fun _ h9 => h9) rfl dX4_thrown_1 ?_
  exact W.iret (v := (I 0)) hx hb hr (fun t ht hW => ⟨⟨(I 0), (), rfl, (rfl), trivial⟩, hS.F ht⟩) hS.2.2 dX4_thrown_4
set_option maxHeartbeats 4000000 in
set_option maxRecDepth 100000 in
theorem c_X4_used (l : Launch) (D : va_G) (T : Nat → ClassId) (ad : Nat → Nat) (I : Nat → Int32) (R : Nat → Nat → Int32) (k : Nat) (hk : k < 8) : Met l yX4_used wsX4_used ({ frames := 0, cells := 0, slots := 0, locals := 0 }) (va_Pc [.ref (ad 0), .int (nI k)] (MR D T ad I R)) (RqI (us (R 0) k)) 0 0 (fun _ => False) := by
  refine Met.ofW (cc := cX4_used) (maxL := 2) (ret := (some .int)) (by decide) rfl ?_
  intro p e s m args_ below meth c s₁ B hml hv
  obtain ⟨rfl, hP, hK⟩ := hv
  have hx := B.exec
  have hb := B.bytes
  have hr := B.returns
  have hts := atoms_spec (ws := wsX4_used) B.pre
  have hown : s.vm.findClass RX4 = some m.cls := findClass_of_methodNamed B.named
  have hlocks := B.notSynchronized
  have hinX4 : ∀ w ∈ u_ws RX4 TX4 12, w ∈ wsX4_used := by decide +kernel
  have hS : va_S (fun _ => False) s.heap s.heap [] := va_S.rf
  have hl := lv_entry ([.ref (ad 0), .int (nI k)]) (n := 2) (Nat.le_of_ble_eq_true rfl)
  rw [lg_entry_eq]
  generalize (lg_sl ([.ref (ad 0), .int (nI k)]) ++ List.replicate (2 - (lg_sl ([.ref (ad 0), .int (nI k)])).length) Slot.unset).toArray = ls at hl ⊢
  have hl : lv_has ls 2 [(0, .ref (ad 0)), (1, .int (nI k))] := hl
  refine lv_aload_n hx hb dX4_used_0 rfl (lv_at hl 0 rfl) ?_
  refine va_get (D := D) (ci := 4) (v := .ref (ad 1)) (C := RX4) (T := TX4) (N := 12) hx hb hts hinX4 hown hK hP 0 mw_0 rfl 1 (by decide) (hts (.fieldLink RX4 7 "SquareGearsModel" "z" "[I") (by decide +kernel)) (fun _ h9 => h9) rfl dX4_used_1 ?_
  refine lv_bipush (v := 8) hx hb dX4_used_4 (by decide) ?_
  refine lv_iload_n hx hb dX4_used_6 rfl (lv_at hl 1 rfl) ?_
  refine lv_iadd hx hb dX4_used_7 ?_
  refine cx_top (nI_add 8 k) ?_
  refine cx_iald (k := (8 + k)) hx hb hK hP 1 1 mw_1 rfl (by omega) (by decide) dX4_used_8 ?_
  refine lv_iconst (v := 1) hx hb dX4_used_9 (by decide) ?_
  refine lv_icmp_ne (tgt := 17) hx hb dX4_used_10 (by decide) (fun c_10 => ?_) (fun c_10 => ?_)
  · refine lv_aload_n hx hb dX4_used_17 rfl (lv_at hl 0 rfl) ?_
    refine va_get (D := D) (ci := 4) (v := .ref (ad 1)) (C := RX4) (T := TX4) (N := 12) hx hb hts hinX4 hown hK hP 0 mw_0 rfl 1 (by decide) (hts (.fieldLink RX4 7 "SquareGearsModel" "z" "[I") (by decide +kernel)) (fun _ h9 => h9) rfl dX4_used_18 ?_
    refine lv_iload_n hx hb dX4_used_21 rfl (lv_at hl 1 rfl) ?_
    refine cx_iald (k := k) hx hb hK hP 1 1 mw_1 rfl (by omega) (by decide) dX4_used_22 ?_
    exact W.iret (v := ((R 0) k)) hx hb hr (fun t ht hW => ⟨⟨((R 0) k), (), rfl, (by first | exact us_t c_10 | exact us_f c_10), trivial⟩, hS.F ht⟩) hS.2.2 dX4_used_23
  · refine lv_iconst (v := 0) hx hb dX4_used_13 (by decide) ?_
    refine lv_goto (tgt := 23) hx hb dX4_used_14 (by decide) ?_
    exact W.iret (v := 0) hx hb hr (fun t ht hW => ⟨⟨0, (), rfl, (by first | exact us_t c_10 | exact us_f c_10), trivial⟩, hS.F ht⟩) hS.2.2 dX4_used_23
set_option maxHeartbeats 4000000 in
set_option maxRecDepth 100000 in
theorem c_X4_traceAt (l : Launch) (D : va_G) (T : Nat → ClassId) (ad : Nat → Nat) (I : Nat → Int32) (R : Nat → Nat → Int32) (n : Nat) (hn : n < 8) : Met l yX4_traceAt wsX4_traceAt ({ frames := 1, cells := 0, slots := 0, locals := 22 }) (va_Pc [.ref (ad 0), .int (nI n)] (MR D T ad I R)) (RqI (trS (us (R 0)) n 8)) 0 0 (fun _ => False) := by
  refine Met.ofW (cc := cX4_traceAt) (maxL := 4) (ret := (some .int)) (by decide) rfl ?_
  intro p e s m args_ below meth c s₁ B hml hv
  obtain ⟨rfl, hP, hK⟩ := hv
  have hx := B.exec
  have hb := B.bytes
  have hr := B.returns
  have hts := atoms_spec (ws := wsX4_traceAt) B.pre
  have hown : s.vm.findClass RX4 = some m.cls := findClass_of_methodNamed B.named
  have hlocks := B.notSynchronized
  have hS : va_S (fun _ => False) s.heap s.heap [] := va_S.rf
  have hl := lv_entry ([.ref (ad 0), .int (nI n)]) (n := 4) (Nat.le_of_ble_eq_true rfl)
  rw [lg_entry_eq]
  generalize (lg_sl ([.ref (ad 0), .int (nI n)]) ++ List.replicate (4 - (lg_sl ([.ref (ad 0), .int (nI n)])).length) Slot.unset).toArray = ls at hl ⊢
  have hl : lv_has ls 4 [(0, .ref (ad 0)), (1, .int (nI n))] := hl
  refine lv_iconst (v := 0) hx hb dX4_traceAt_0 (by decide) ?_
  refine lv_istore_n (lv' := [(2, .int 0), (0, .ref (ad 0)), (1, .int (nI n))]) hx hb dX4_traceAt_1 rfl hl (by decide) rfl (fun ls hl => ?_)
  refine lv_iconst (v := 0) hx hb dX4_traceAt_2 (by decide) ?_
  refine lv_istore_n (lv' := [(3, .int 0), (2, .int 0), (0, .ref (ad 0)), (1, .int (nI n))]) hx hb dX4_traceAt_3 rfl hl (by decide) rfl (fun ls hl => ?_)
  suffices ih_4 : ∀ (fu : Nat) (i : Nat) (H : Heap) (locs : List Loc) (ls : Array Slot), 8 - i < fu → (i ≤ 8) → va_P D vwCl (mw T ad I R) H →  va_S (fun _ => False) s.heap H locs → lv_has ls 4 [(0, .ref (ad 0)), (1, .int (nI n)), (2, .int (trS (us (R 0)) n i)), (3, .int (nI i))] → W p l e (headSpec wsX4_traceAt ({ frames := 1, cells := 0, slots := 0, locals := 22 })).room s m ([.ref (ad 0), .int (nI n)] : List Value).toArray below meth c H locs 0 0 (MQ below (RqI (trS (us (R 0)) n 8)) ([.ref (ad 0), .int (nI n)] : List Value).toArray s 0 0 (fun _ => False)) (F0 m 4 ls []) from
    ih_4 _ 0 _ _ _ (Nat.lt_succ_self _) (by omega) hP hS (lv_sub hl [2, 3, 1, 0] rfl)
  intro fu
  induction fu with
  | zero => intro i H locs ls hfu; exact absurd hfu (Nat.not_lt_zero _)
  | succ fu ih_4 =>
    intro i H locs ls hfu hi hP hS hl
    refine lv_iload_n hx hb dX4_traceAt_4 rfl (lv_at hl 3 rfl) ?_
    refine lv_bipush (v := 8) hx hb dX4_traceAt_5 (by decide) ?_
    refine lv_icmp_ge (tgt := 30) hx hb dX4_traceAt_7 (by decide) (fun c_7 => ?_) (fun c_7 => ?_)
    · have c_7 : 8 ≤ i := (nI_leI (a := 8) (b := i) (by omega) (by omega)).mp c_7
      obtain rfl : i = 8 := by omega
      refine lv_iload_n hx hb dX4_traceAt_30 rfl (lv_at hl 2 rfl) ?_
      exact W.iret (v := (trS (us (R 0)) n 8)) hx hb hr (fun t ht hW => ⟨⟨(trS (us (R 0)) n 8), (), rfl, (rfl), trivial⟩, hS.F ht⟩) hS.2.2 dX4_traceAt_31
    · have c_7 : ¬ (8 ≤ i) := fun h => c_7 ((nI_leI (a := 8) (b := i) (by omega) (by omega)).mpr h)
      refine lv_iload_n hx hb dX4_traceAt_10 rfl (lv_at hl 2 rfl) ?_
      refine lv_aload_n hx hb dX4_traceAt_11 rfl (lv_at hl 0 rfl) ?_
      refine lv_iload_n hx hb dX4_traceAt_12 rfl (lv_at hl 3 rfl) ?_
      refine cx_ri (va_runV (As := [.int (nI i)]) (rest := [.int (trS (us (R 0)) n i)]) ⟨hx, hb, hml, hown, hts⟩ (c_X4_used l D T ad I R i (by omega)) (cwV 1 hts gX4_traceAt_X4_used rfl rfl rfl (by decide +kernel) ⟨Nat.le_of_ble_eq_true rfl, Nat.le_of_ble_eq_true rfl⟩) ⟨MR.blind, va_recv hK hP (ci := 4) (q0 := 0) rfl mw_0, (MR.pre hP hK rfl)⟩ rfl rfl hl.1 rfl (lv_room (Nat.le_of_ble_eq_true rfl)) dX4_traceAt_13 ⟨Nat.le_of_ble_eq_true rfl, Nat.le_of_ble_eq_true rfl⟩) hS hP (fun H locs hP hS => ?_)
      refine lv_iload_n hx hb dX4_traceAt_16 rfl (lv_at hl 3 rfl) ?_
      refine lv_iload_n hx hb dX4_traceAt_17 rfl (lv_at hl 1 rfl) ?_
      refine cx_ri (va_runS (As := [.int (nI i), .int (nI n)]) (rest := [.int (us ((R 0)) i), .int (trS (us (R 0)) n i)]) ⟨hx, hb, hml, hown, hts⟩ (c_X4_wave l  i n (by omega) (hn)) (va_cwS 2 hts gX4_traceAt_X4_wave rfl rfl rfl (by decide +kernel) ⟨Nat.le_of_ble_eq_true rfl, Nat.le_of_ble_eq_true rfl⟩) ⟨pc_blind, (fun U hU hW => ⟨rfl, trivial⟩)⟩ rfl rfl hl.1 rfl (lv_room (Nat.le_of_ble_eq_true rfl)) dX4_traceAt_18 ⟨Nat.le_of_ble_eq_true rfl, Nat.le_of_ble_eq_true rfl⟩) hS hP (fun H locs hP hS => ?_)
      refine lv_imul hx hb dX4_traceAt_21 ?_
      refine lv_iadd hx hb dX4_traceAt_22 ?_
      refine lv_istore_n (lv' := [(2, .int ((trS (us (R 0)) n i) + ((us ((R 0)) i) * (wv i n)))), (0, .ref (ad 0)), (1, .int (nI n)), (3, .int (nI i))]) hx hb dX4_traceAt_23 rfl hl (by decide) rfl (fun ls hl => ?_)
      refine lv_iinc (k := 3) (v := (nI (i + 1))) (lv' := [(3, .int (nI (i + 1))), (2, .int ((trS (us (R 0)) n i) + ((us ((R 0)) i) * (wv i n)))), (0, .ref (ad 0)), (1, .int (nI n))]) hx hb dX4_traceAt_24 hl rfl (nI_add i 1) (by decide) rfl (fun ls hl => ?_)
      refine lv_goto (tgt := 4) hx hb dX4_traceAt_27 (by decide) ?_
      exact ih_4 (i + 1) _ _ _ (by omega) (by omega) hP hS (lv_sub hl [2, 3, 1, 0] rfl)
set_option maxHeartbeats 4000000 in
set_option maxRecDepth 100000 in
theorem c_X4_difference (l : Launch) (D : va_G) (T : Nat → ClassId) (ad : Nat → Nat) (I : Nat → Int32) (R : Nat → Nat → Int32) (n : Nat) (hn : n < 8) : Met l yX4_difference wsX4_difference ({ frames := 2, cells := 0, slots := 0, locals := 45 }) (va_Pc [.ref (ad 0), .int (nI n)] (MR D T ad I R)) (RqI (diF (qz (R 0)) (us (R 0)) n)) 0 0 (fun _ => False) := by
  refine Met.ofW (cc := cX4_difference) (maxL := 2) (ret := (some .int)) (by decide) rfl ?_
  intro p e s m args_ below meth c s₁ B hml hv
  obtain ⟨rfl, hP, hK⟩ := hv
  have hx := B.exec
  have hb := B.bytes
  have hr := B.returns
  have hts := atoms_spec (ws := wsX4_difference) B.pre
  have hown : s.vm.findClass RX4 = some m.cls := findClass_of_methodNamed B.named
  have hlocks := B.notSynchronized
  have hinX4 : ∀ w ∈ u_ws RX4 TX4 12, w ∈ wsX4_difference := by decide +kernel
  have hS : va_S (fun _ => False) s.heap s.heap [] := va_S.rf
  have hl := lv_entry ([.ref (ad 0), .int (nI n)]) (n := 2) (Nat.le_of_ble_eq_true rfl)
  rw [lg_entry_eq]
  generalize (lg_sl ([.ref (ad 0), .int (nI n)]) ++ List.replicate (2 - (lg_sl ([.ref (ad 0), .int (nI n)])).length) Slot.unset).toArray = ls at hl ⊢
  have hl : lv_has ls 2 [(0, .ref (ad 0)), (1, .int (nI n))] := hl
  refine lv_aload_n hx hb dX4_difference_0 rfl (lv_at hl 0 rfl) ?_
  refine va_get (D := D) (ci := 4) (v := .ref (ad 1)) (C := RX4) (T := TX4) (N := 12) hx hb hts hinX4 hown hK hP 0 mw_0 rfl 1 (by decide) (hts (.fieldLink RX4 7 "SquareGearsModel" "z" "[I") (by decide +kernel)) (fun _ h9 => h9) rfl dX4_difference_1 ?_
  refine lv_bipush (v := 16) hx hb dX4_difference_4 (by decide) ?_
  refine lv_iload_n hx hb dX4_difference_6 rfl (lv_at hl 1 rfl) ?_
  refine lv_iadd hx hb dX4_difference_7 ?_
  refine cx_top (nI_add 16 n) ?_
  refine cx_iald (k := (16 + n)) hx hb hK hP 1 1 mw_1 rfl (by omega) (by decide) dX4_difference_8 ?_
  refine lv_aload_n hx hb dX4_difference_9 rfl (lv_at hl 0 rfl) ?_
  refine lv_iload_n hx hb dX4_difference_10 rfl (lv_at hl 1 rfl) ?_
  refine cx_ri (va_runV (As := [.int (nI n)]) (rest := [.int ((R 0) (16 + n))]) ⟨hx, hb, hml, hown, hts⟩ (c_X4_traceAt l D T ad I R n (hn)) (cwV 1 hts gX4_difference_X4_traceAt rfl rfl rfl (by decide +kernel) ⟨Nat.le_of_ble_eq_true rfl, Nat.le_of_ble_eq_true rfl⟩) ⟨MR.blind, va_recv hK hP (ci := 4) (q0 := 0) rfl mw_0, (MR.pre hP hK rfl)⟩ rfl rfl hl.1 rfl (lv_room (Nat.le_of_ble_eq_true rfl)) dX4_difference_11 ⟨Nat.le_of_ble_eq_true rfl, Nat.le_of_ble_eq_true rfl⟩) hS hP (fun H locs hP hS => ?_)
  refine lv_isub hx hb dX4_difference_14 ?_
  exact W.iret (v := (((R 0) (16 + n)) - (trS (us ((R 0))) n 8))) hx hb hr (fun t ht hW => ⟨⟨(((R 0) (16 + n)) - (trS (us ((R 0))) n 8)), (), rfl, (rfl), trivial⟩, hS.F ht⟩) hS.2.2 dX4_difference_15
set_option maxHeartbeats 4000000 in
set_option maxRecDepth 100000 in
theorem c_X4_jump (l : Launch) (D : va_G) (T : Nat → ClassId) (ad : Nat → Nat) (I : Nat → Int32) (R : Nat → Nat → Int32) (n : Nat) (hn : n < 8) : Met l yX4_jump wsX4_jump ({ frames := 2, cells := 0, slots := 0, locals := 45 }) (va_Pc [.ref (ad 0), .int (nI n)] (MR D T ad I R)) (RqI (juF (us (R 0)) n)) 0 0 (fun _ => False) := by
  refine Met.ofW (cc := cX4_jump) (maxL := 2) (ret := (some .int)) (by decide) rfl ?_
  intro p e s m args_ below meth c s₁ B hml hv
  obtain ⟨rfl, hP, hK⟩ := hv
  have hx := B.exec
  have hb := B.bytes
  have hr := B.returns
  have hts := atoms_spec (ws := wsX4_jump) B.pre
  have hown : s.vm.findClass RX4 = some m.cls := findClass_of_methodNamed B.named
  have hlocks := B.notSynchronized
  have hS : va_S (fun _ => False) s.heap s.heap [] := va_S.rf
  have hl := lv_entry ([.ref (ad 0), .int (nI n)]) (n := 2) (Nat.le_of_ble_eq_true rfl)
  rw [lg_entry_eq]
  generalize (lg_sl ([.ref (ad 0), .int (nI n)]) ++ List.replicate (2 - (lg_sl ([.ref (ad 0), .int (nI n)])).length) Slot.unset).toArray = ls at hl ⊢
  have hl : lv_has ls 2 [(0, .ref (ad 0)), (1, .int (nI n))] := hl
  refine lv_aload_n hx hb dX4_jump_0 rfl (lv_at hl 0 rfl) ?_
  refine lv_iload_n hx hb dX4_jump_1 rfl (lv_at hl 1 rfl) ?_
  refine lv_iconst (v := 1) hx hb dX4_jump_2 (by decide) ?_
  refine lv_iadd hx hb dX4_jump_3 ?_
  refine cx_top (nI_add n 1) ?_
  refine lv_bipush (v := 8) hx hb dX4_jump_4 (by decide) ?_
  refine lv_irem hx hb dX4_jump_6 (by decide) ?_
  refine cx_top (pk_rem (a := n + 1) (d := 8) (by omega) (by decide) (by decide)) ?_
  refine cx_ri (va_runV (As := [.int (nI ((n + 1) % 8))]) (rest := []) ⟨hx, hb, hml, hown, hts⟩ (c_X4_traceAt l D T ad I R ((n + 1) % 8) (by omega)) (cwV 1 hts gX4_jump_X4_traceAt rfl rfl rfl (by decide +kernel) ⟨Nat.le_of_ble_eq_true rfl, Nat.le_of_ble_eq_true rfl⟩) ⟨MR.blind, va_recv hK hP (ci := 4) (q0 := 0) rfl mw_0, (MR.pre hP hK rfl)⟩ rfl rfl hl.1 rfl (lv_room (Nat.le_of_ble_eq_true rfl)) dX4_jump_7 ⟨Nat.le_of_ble_eq_true rfl, Nat.le_of_ble_eq_true rfl⟩) hS hP (fun H locs hP hS => ?_)
  refine lv_aload_n hx hb dX4_jump_10 rfl (lv_at hl 0 rfl) ?_
  refine lv_iload_n hx hb dX4_jump_11 rfl (lv_at hl 1 rfl) ?_
  refine cx_ri (va_runV (As := [.int (nI n)]) (rest := [.int (trS (us ((R 0))) ((n + 1) % 8) 8)]) ⟨hx, hb, hml, hown, hts⟩ (c_X4_traceAt l D T ad I R n (hn)) (cwV 1 hts gX4_jump_X4_traceAt rfl rfl rfl (by decide +kernel) ⟨Nat.le_of_ble_eq_true rfl, Nat.le_of_ble_eq_true rfl⟩) ⟨MR.blind, va_recv hK hP (ci := 4) (q0 := 0) rfl mw_0, (MR.pre hP hK rfl)⟩ rfl rfl hl.1 rfl (lv_room (Nat.le_of_ble_eq_true rfl)) dX4_jump_12 ⟨Nat.le_of_ble_eq_true rfl, Nat.le_of_ble_eq_true rfl⟩) hS hP (fun H locs hP hS => ?_)
  refine lv_isub hx hb dX4_jump_15 ?_
  exact W.iret (v := ((trS (us ((R 0))) ((n + 1) % 8) 8) - (trS (us ((R 0))) n 8))) hx hb hr (fun t ht hW => ⟨⟨((trS (us ((R 0))) ((n + 1) % 8) 8) - (trS (us ((R 0))) n 8)), (), rfl, (rfl), trivial⟩, hS.F ht⟩) hS.2.2 dX4_jump_16
set_option maxHeartbeats 4000000 in
set_option maxRecDepth 100000 in
theorem c_X4_ofPattern (l : Launch) (D : va_G) (T : Nat → ClassId) (ad : Nat → Nat) (I : Nat → Int32) (R : Nat → Nat → Int32) (k : Nat) (hk : k < 8) : Met l yX4_ofPattern wsX4_ofPattern ({ frames := 1, cells := 0, slots := 0, locals := 22 }) (va_Pc [.ref (ad 0), .int (nI k)] (MR D T ad I R)) (RqI (psS (qz (R 0)) k 8 >>> (3 : Int32))) 0 0 (fun _ => False) := by
  refine Met.ofW (cc := cX4_ofPattern) (maxL := 4) (ret := (some .int)) (by decide) rfl ?_
  intro p e s m args_ below meth c s₁ B hml hv
  obtain ⟨rfl, hP, hK⟩ := hv
  have hx := B.exec
  have hb := B.bytes
  have hr := B.returns
  have hts := atoms_spec (ws := wsX4_ofPattern) B.pre
  have hown : s.vm.findClass RX4 = some m.cls := findClass_of_methodNamed B.named
  have hlocks := B.notSynchronized
  have hinX4 : ∀ w ∈ u_ws RX4 TX4 12, w ∈ wsX4_ofPattern := by decide +kernel
  have hS : va_S (fun _ => False) s.heap s.heap [] := va_S.rf
  have hl := lv_entry ([.ref (ad 0), .int (nI k)]) (n := 4) (Nat.le_of_ble_eq_true rfl)
  rw [lg_entry_eq]
  generalize (lg_sl ([.ref (ad 0), .int (nI k)]) ++ List.replicate (4 - (lg_sl ([.ref (ad 0), .int (nI k)])).length) Slot.unset).toArray = ls at hl ⊢
  have hl : lv_has ls 4 [(0, .ref (ad 0)), (1, .int (nI k))] := hl
  refine lv_iconst (v := 0) hx hb dX4_ofPattern_0 (by decide) ?_
  refine lv_istore_n (lv' := [(2, .int 0), (0, .ref (ad 0)), (1, .int (nI k))]) hx hb dX4_ofPattern_1 rfl hl (by decide) rfl (fun ls hl => ?_)
  refine lv_iconst (v := 0) hx hb dX4_ofPattern_2 (by decide) ?_
  refine lv_istore_n (lv' := [(3, .int 0), (2, .int 0), (0, .ref (ad 0)), (1, .int (nI k))]) hx hb dX4_ofPattern_3 rfl hl (by decide) rfl (fun ls hl => ?_)
  suffices ih_4 : ∀ (fu : Nat) (i : Nat) (H : Heap) (locs : List Loc) (ls : Array Slot), 8 - i < fu → (i ≤ 8) → va_P D vwCl (mw T ad I R) H →  va_S (fun _ => False) s.heap H locs → lv_has ls 4 [(0, .ref (ad 0)), (1, .int (nI k)), (2, .int (psS (qz (R 0)) k i)), (3, .int (nI i))] → W p l e (headSpec wsX4_ofPattern ({ frames := 1, cells := 0, slots := 0, locals := 22 })).room s m ([.ref (ad 0), .int (nI k)] : List Value).toArray below meth c H locs 0 0 (MQ below (RqI (psS (qz (R 0)) k 8 >>> (3 : Int32))) ([.ref (ad 0), .int (nI k)] : List Value).toArray s 0 0 (fun _ => False)) (F0 m 4 ls []) from
    ih_4 _ 0 _ _ _ (Nat.lt_succ_self _) (by omega) hP hS (lv_sub hl [2, 3, 1, 0] rfl)
  intro fu
  induction fu with
  | zero => intro i H locs ls hfu; exact absurd hfu (Nat.not_lt_zero _)
  | succ fu ih_4 =>
    intro i H locs ls hfu hi hP hS hl
    refine lv_iload_n hx hb dX4_ofPattern_4 rfl (lv_at hl 3 rfl) ?_
    refine lv_bipush (v := 8) hx hb dX4_ofPattern_5 (by decide) ?_
    refine lv_icmp_ge (tgt := 34) hx hb dX4_ofPattern_7 (by decide) (fun c_7 => ?_) (fun c_7 => ?_)
    · have c_7 : 8 ≤ i := (nI_leI (a := 8) (b := i) (by omega) (by omega)).mp c_7
      obtain rfl : i = 8 := by omega
      refine lv_iload_n hx hb dX4_ofPattern_34 rfl (lv_at hl 2 rfl) ?_
      refine lv_iconst (v := 3) hx hb dX4_ofPattern_35 (by decide) ?_
      refine lv_ishr hx hb dX4_ofPattern_36 ?_
      exact W.iret (v := ((psS (qz (R 0)) k 8) >>> (3 &&& 31))) hx hb hr (fun t ht hW => ⟨⟨((psS (qz (R 0)) k 8) >>> (3 &&& 31)), (), rfl, (rfl), trivial⟩, hS.F ht⟩) hS.2.2 dX4_ofPattern_37
    · have c_7 : ¬ (8 ≤ i) := fun h => c_7 ((nI_leI (a := 8) (b := i) (by omega) (by omega)).mpr h)
      refine lv_iload_n hx hb dX4_ofPattern_10 rfl (lv_at hl 2 rfl) ?_
      refine lv_aload_n hx hb dX4_ofPattern_11 rfl (lv_at hl 0 rfl) ?_
      refine va_get (D := D) (ci := 4) (v := .ref (ad 1)) (C := RX4) (T := TX4) (N := 12) hx hb hts hinX4 hown hK hP 0 mw_0 rfl 1 (by decide) (hts (.fieldLink RX4 7 "SquareGearsModel" "z" "[I") (by decide +kernel)) (fun _ h9 => h9) rfl dX4_ofPattern_12 ?_
      refine lv_bipush (v := 16) hx hb dX4_ofPattern_15 (by decide) ?_
      refine lv_iload_n hx hb dX4_ofPattern_17 rfl (lv_at hl 3 rfl) ?_
      refine lv_iadd hx hb dX4_ofPattern_18 ?_
      refine cx_top (nI_add 16 i) ?_
      refine cx_iald (k := (16 + i)) hx hb hK hP 1 1 mw_1 rfl (by omega) (by decide) dX4_ofPattern_19 ?_
      refine lv_iload_n hx hb dX4_ofPattern_20 rfl (lv_at hl 1 rfl) ?_
      refine lv_iload_n hx hb dX4_ofPattern_21 rfl (lv_at hl 3 rfl) ?_
      refine cx_ri (va_runS (As := [.int (nI k), .int (nI i)]) (rest := [.int ((R 0) (16 + i)), .int (psS (qz (R 0)) k i)]) ⟨hx, hb, hml, hown, hts⟩ (c_X4_wave l  k i (hk) (by omega)) (va_cwS 2 hts gX4_ofPattern_X4_wave rfl rfl rfl (by decide +kernel) ⟨Nat.le_of_ble_eq_true rfl, Nat.le_of_ble_eq_true rfl⟩) ⟨pc_blind, (fun U hU hW => ⟨rfl, trivial⟩)⟩ rfl rfl hl.1 rfl (lv_room (Nat.le_of_ble_eq_true rfl)) dX4_ofPattern_22 ⟨Nat.le_of_ble_eq_true rfl, Nat.le_of_ble_eq_true rfl⟩) hS hP (fun H locs hP hS => ?_)
      refine lv_imul hx hb dX4_ofPattern_25 ?_
      refine lv_iadd hx hb dX4_ofPattern_26 ?_
      refine lv_istore_n (lv' := [(2, .int ((psS (qz (R 0)) k i) + (((R 0) (16 + i)) * (wv k i)))), (0, .ref (ad 0)), (1, .int (nI k)), (3, .int (nI i))]) hx hb dX4_ofPattern_27 rfl hl (by decide) rfl (fun ls hl => ?_)
      refine lv_iinc (k := 3) (v := (nI (i + 1))) (lv' := [(3, .int (nI (i + 1))), (2, .int ((psS (qz (R 0)) k i) + (((R 0) (16 + i)) * (wv k i)))), (0, .ref (ad 0)), (1, .int (nI k))]) hx hb dX4_ofPattern_28 hl rfl (nI_add i 1) (by decide) rfl (fun ls hl => ?_)
      refine lv_goto (tgt := 4) hx hb dX4_ofPattern_31 (by decide) ?_
      exact ih_4 (i + 1) _ _ _ (by omega) (by omega) hP hS (lv_sub hl [2, 3, 1, 0] rfl)
set_option maxHeartbeats 4000000 in
set_option maxRecDepth 100000 in
theorem c_X4_turning (l : Launch) (D : va_G) (T : Nat → ClassId) (ad : Nat → Nat) (I : Nat → Int32) (R : Nat → Nat → Int32) : Met l yX4_turning wsX4_turning ({ frames := 0, cells := 0, slots := 0, locals := 0 }) (va_Pc [.ref (ad 0)] (MR D T ad I R)) (RqI (cnS (R 0) 8)) 0 0 (fun _ => False) := by
  refine Met.ofW (cc := cX4_turning) (maxL := 3) (ret := (some .int)) (by decide) rfl ?_
  intro p e s m args_ below meth c s₁ B hml hv
  obtain ⟨rfl, hP, hK⟩ := hv
  have hx := B.exec
  have hb := B.bytes
  have hr := B.returns
  have hts := atoms_spec (ws := wsX4_turning) B.pre
  have hown : s.vm.findClass RX4 = some m.cls := findClass_of_methodNamed B.named
  have hlocks := B.notSynchronized
  have hinX4 : ∀ w ∈ u_ws RX4 TX4 12, w ∈ wsX4_turning := by decide +kernel
  have hS : va_S (fun _ => False) s.heap s.heap [] := va_S.rf
  have hl := lv_entry ([.ref (ad 0)]) (n := 3) (Nat.le_of_ble_eq_true rfl)
  rw [lg_entry_eq]
  generalize (lg_sl ([.ref (ad 0)]) ++ List.replicate (3 - (lg_sl ([.ref (ad 0)])).length) Slot.unset).toArray = ls at hl ⊢
  have hl : lv_has ls 3 [(0, .ref (ad 0))] := hl
  refine lv_iconst (v := 0) hx hb dX4_turning_0 (by decide) ?_
  refine lv_istore_n (lv' := [(1, .int 0), (0, .ref (ad 0))]) hx hb dX4_turning_1 rfl hl (by decide) rfl (fun ls hl => ?_)
  refine lv_iconst (v := 0) hx hb dX4_turning_2 (by decide) ?_
  refine lv_istore_n (lv' := [(2, .int 0), (1, .int 0), (0, .ref (ad 0))]) hx hb dX4_turning_3 rfl hl (by decide) rfl (fun ls hl => ?_)
  suffices ih_4 : ∀ (fu : Nat) (i : Nat) (H : Heap) (locs : List Loc) (ls : Array Slot), 8 - i < fu → (i ≤ 8) → va_P D vwCl (mw T ad I R) H →  va_S (fun _ => False) s.heap H locs → lv_has ls 3 [(0, .ref (ad 0)), (1, .int (cnS (R 0) i)), (2, .int (nI i))] → W p l e (headSpec wsX4_turning ({ frames := 0, cells := 0, slots := 0, locals := 0 })).room s m ([.ref (ad 0)] : List Value).toArray below meth c H locs 0 0 (MQ below (RqI (cnS (R 0) 8)) ([.ref (ad 0)] : List Value).toArray s 0 0 (fun _ => False)) (F0 m 4 ls []) from
    ih_4 _ 0 _ _ _ (Nat.lt_succ_self _) (by omega) hP hS (lv_sub hl [2, 1, 0] rfl)
  intro fu
  induction fu with
  | zero => intro i H locs ls hfu; exact absurd hfu (Nat.not_lt_zero _)
  | succ fu ih_4 =>
    intro i H locs ls hfu hi hP hS hl
    refine lv_iload_n hx hb dX4_turning_4 rfl (lv_at hl 2 rfl) ?_
    refine lv_bipush (v := 8) hx hb dX4_turning_5 (by decide) ?_
    refine lv_icmp_ge (tgt := 33) hx hb dX4_turning_7 (by decide) (fun c_7 => ?_) (fun c_7 => ?_)
    · have c_7 : 8 ≤ i := (nI_leI (a := 8) (b := i) (by omega) (by omega)).mp c_7
      obtain rfl : i = 8 := by omega
      refine lv_iload_n hx hb dX4_turning_33 rfl (lv_at hl 1 rfl) ?_
      exact W.iret (v := (cnS (R 0) 8)) hx hb hr (fun t ht hW => ⟨⟨(cnS (R 0) 8), (), rfl, (rfl), trivial⟩, hS.F ht⟩) hS.2.2 dX4_turning_34
    · have c_7 : ¬ (8 ≤ i) := fun h => c_7 ((nI_leI (a := 8) (b := i) (by omega) (by omega)).mpr h)
      refine lv_iload_n hx hb dX4_turning_10 rfl (lv_at hl 1 rfl) ?_
      refine lv_aload_n hx hb dX4_turning_11 rfl (lv_at hl 0 rfl) ?_
      refine va_get (D := D) (ci := 4) (v := .ref (ad 1)) (C := RX4) (T := TX4) (N := 12) hx hb hts hinX4 hown hK hP 0 mw_0 rfl 1 (by decide) (hts (.fieldLink RX4 7 "SquareGearsModel" "z" "[I") (by decide +kernel)) (fun _ h9 => h9) rfl dX4_turning_12 ?_
      refine lv_iload_n hx hb dX4_turning_15 rfl (lv_at hl 2 rfl) ?_
      refine cx_iald (k := i) hx hb hK hP 1 1 mw_1 rfl (by omega) (by decide) dX4_turning_16 ?_
      refine lv_if_eq (tgt := 24) hx hb dX4_turning_17 (by decide) (fun c_17 => ?_) (fun c_17 => ?_)
      · refine lv_iconst (v := 0) hx hb dX4_turning_24 (by decide) ?_
        refine lv_iadd hx hb dX4_turning_25 ?_
        refine cx_top (show ((cnS (R 0) i) + 0) = (cnS (R 0) (i + 1)) from by first | exact cn_t c_17 | exact cn_f c_17) ?_
        refine lv_istore_n (lv' := [(1, .int (cnS (R 0) (i + 1))), (0, .ref (ad 0)), (2, .int (nI i))]) hx hb dX4_turning_26 rfl hl (by decide) rfl (fun ls hl => ?_)
        refine lv_iinc (k := 2) (v := (nI (i + 1))) (lv' := [(2, .int (nI (i + 1))), (1, .int (cnS (R 0) (i + 1))), (0, .ref (ad 0))]) hx hb dX4_turning_27 hl rfl (nI_add i 1) (by decide) rfl (fun ls hl => ?_)
        refine lv_goto (tgt := 4) hx hb dX4_turning_30 (by decide) ?_
        exact ih_4 (i + 1) _ _ _ (by omega) (by omega) hP hS (lv_sub hl [2, 1, 0] rfl)
      · refine lv_iconst (v := 1) hx hb dX4_turning_20 (by decide) ?_
        refine lv_goto (tgt := 25) hx hb dX4_turning_21 (by decide) ?_
        refine lv_iadd hx hb dX4_turning_25 ?_
        refine cx_top (show ((cnS (R 0) i) + 1) = (cnS (R 0) (i + 1)) from by first | exact cn_t c_17 | exact cn_f c_17) ?_
        refine lv_istore_n (lv' := [(1, .int (cnS (R 0) (i + 1))), (0, .ref (ad 0)), (2, .int (nI i))]) hx hb dX4_turning_26 rfl hl (by decide) rfl (fun ls hl => ?_)
        refine lv_iinc (k := 2) (v := (nI (i + 1))) (lv' := [(2, .int (nI (i + 1))), (1, .int (cnS (R 0) (i + 1))), (0, .ref (ad 0))]) hx hb dX4_turning_27 hl rfl (nI_add i 1) (by decide) rfl (fun ls hl => ?_)
        refine lv_goto (tgt := 4) hx hb dX4_turning_30 (by decide) ?_
        exact ih_4 (i + 1) _ _ _ (by omega) (by omega) hP hS (lv_sub hl [2, 1, 0] rfl)
set_option maxHeartbeats 4000000 in
set_option maxRecDepth 100000 in
theorem c_X4_changes (l : Launch) (k : Nat) (hk : k < 8) : Met l yX4_changes wsX4_changes ({ frames := 1, cells := 0, slots := 0, locals := 22 }) (va_Pc [.int (nI k)] (fun _ => True)) (RqI (chS k 7)) 0 0 (fun _ => False) := by
  refine Met.ofW (cc := cX4_changes) (maxL := 3) (ret := (some .int)) (by decide) rfl ?_
  intro p e s m args_ below meth c s₁ B hml hv
  obtain ⟨rfl, -⟩ := hv
  have hP : va_P ((fun _ => 0), (fun _ _ => 0)) [] [] s.heap := fun k q h => by simp at h
  have hx := B.exec
  have hb := B.bytes
  have hr := B.returns
  have hts := atoms_spec (ws := wsX4_changes) B.pre
  have hown : s.vm.findClass RX4 = some m.cls := findClass_of_methodNamed B.named
  have hlocks := B.notSynchronized
  have hS : va_S (fun _ => False) s.heap s.heap [] := va_S.rf
  have hl := lv_entry ([.int (nI k)]) (n := 3) (Nat.le_of_ble_eq_true rfl)
  rw [lg_entry_eq]
  generalize (lg_sl ([.int (nI k)]) ++ List.replicate (3 - (lg_sl ([.int (nI k)])).length) Slot.unset).toArray = ls at hl ⊢
  have hl : lv_has ls 3 [(0, .int (nI k))] := hl
  refine lv_iconst (v := 0) hx hb dX4_changes_0 (by decide) ?_
  refine lv_istore_n (lv' := [(1, .int 0), (0, .int (nI k))]) hx hb dX4_changes_1 rfl hl (by decide) rfl (fun ls hl => ?_)
  refine lv_iconst (v := 1) hx hb dX4_changes_2 (by decide) ?_
  refine lv_istore_n (lv' := [(2, .int 1), (1, .int 0), (0, .int (nI k))]) hx hb dX4_changes_3 rfl hl (by decide) rfl (fun ls hl => ?_)
  suffices ih_4 : ∀ (fu : Nat) (j : Nat) (H : Heap) (locs : List Loc) (ls : Array Slot), 7 - j < fu → (j ≤ 7) → va_P ((fun _ => 0), (fun _ _ => 0)) [] [] H →  va_S (fun _ => False) s.heap H locs → lv_has ls 3 [(0, .int (nI k)), (1, .int (chS k j)), (2, .int (nI (j + 1)))] → W p l e (headSpec wsX4_changes ({ frames := 1, cells := 0, slots := 0, locals := 22 })).room s m ([.int (nI k)] : List Value).toArray below meth c H locs 0 0 (MQ below (RqI (chS k 7)) ([.int (nI k)] : List Value).toArray s 0 0 (fun _ => False)) (F0 m 4 ls []) from
    ih_4 _ 0 _ _ _ (Nat.lt_succ_self _) (by omega) hP hS (lv_sub hl [2, 1, 0] rfl)
  intro fu
  induction fu with
  | zero => intro j H locs ls hfu; exact absurd hfu (Nat.not_lt_zero _)
  | succ fu ih_4 =>
    intro j H locs ls hfu hj hP hS hl
    refine lv_iload_n hx hb dX4_changes_4 rfl (lv_at hl 2 rfl) ?_
    refine lv_bipush (v := 8) hx hb dX4_changes_5 (by decide) ?_
    refine lv_icmp_ge (tgt := 39) hx hb dX4_changes_7 (by decide) (fun c_7 => ?_) (fun c_7 => ?_)
    · have c_7 : 8 ≤ (j + 1) := (nI_leI (a := 8) (b := (j + 1)) (by omega) (by omega)).mp c_7
      obtain rfl : j = 7 := by omega
      refine lv_iload_n hx hb dX4_changes_39 rfl (lv_at hl 1 rfl) ?_
      exact W.iret (v := (chS k 7)) hx hb hr (fun t ht hW => ⟨⟨(chS k 7), (), rfl, (rfl), trivial⟩, hS.F ht⟩) hS.2.2 dX4_changes_40
    · have c_7 : ¬ (8 ≤ (j + 1)) := fun h => c_7 ((nI_leI (a := 8) (b := (j + 1)) (by omega) (by omega)).mpr h)
      refine lv_iload_n hx hb dX4_changes_10 rfl (lv_at hl 1 rfl) ?_
      refine lv_iload_n hx hb dX4_changes_11 rfl (lv_at hl 0 rfl) ?_
      refine lv_iload_n hx hb dX4_changes_12 rfl (lv_at hl 2 rfl) ?_
      refine cx_ri (va_runS (As := [.int (nI k), .int (nI (j + 1))]) (rest := [.int (chS k j)]) ⟨hx, hb, hml, hown, hts⟩ (c_X4_wave l  k (j + 1) (hk) (by omega)) (va_cwS 2 hts gX4_changes_X4_wave rfl rfl rfl (by decide +kernel) ⟨Nat.le_of_ble_eq_true rfl, Nat.le_of_ble_eq_true rfl⟩) ⟨pc_blind, (fun U hU hW => ⟨rfl, trivial⟩)⟩ rfl rfl hl.1 rfl (lv_room (Nat.le_of_ble_eq_true rfl)) dX4_changes_13 ⟨Nat.le_of_ble_eq_true rfl, Nat.le_of_ble_eq_true rfl⟩) hS hP (fun H locs hP hS => ?_)
      refine lv_iload_n hx hb dX4_changes_16 rfl (lv_at hl 0 rfl) ?_
      refine lv_iload_n hx hb dX4_changes_17 rfl (lv_at hl 2 rfl) ?_
      refine lv_iconst (v := 1) hx hb dX4_changes_18 (by decide) ?_
      refine lv_isub hx hb dX4_changes_19 ?_
      refine cx_top (pk_sub (a := (j + 1)) (b := 1) (by omega)) ?_
      refine cx_top (show (nI ((j + 1) - 1)) = (nI j) from rfl) ?_
      refine cx_ri (va_runS (As := [.int (nI k), .int (nI j)]) (rest := [.int (wv k (j + 1)), .int (chS k j)]) ⟨hx, hb, hml, hown, hts⟩ (c_X4_wave l  k j (hk) (by omega)) (va_cwS 2 hts gX4_changes_X4_wave rfl rfl rfl (by decide +kernel) ⟨Nat.le_of_ble_eq_true rfl, Nat.le_of_ble_eq_true rfl⟩) ⟨pc_blind, (fun U hU hW => ⟨rfl, trivial⟩)⟩ rfl rfl hl.1 rfl (lv_room (Nat.le_of_ble_eq_true rfl)) dX4_changes_20 ⟨Nat.le_of_ble_eq_true rfl, Nat.le_of_ble_eq_true rfl⟩) hS hP (fun H locs hP hS => ?_)
      refine lv_icmp_ne (tgt := 30) hx hb dX4_changes_23 (by decide) (fun c_23 => ?_) (fun c_23 => ?_)
      · refine lv_iconst (v := 1) hx hb dX4_changes_30 (by decide) ?_
        refine lv_iadd hx hb dX4_changes_31 ?_
        refine cx_top (show ((chS k j) + 1) = (chS k (j + 1)) from by first | exact ch_t c_23 | exact ch_f c_23) ?_
        refine lv_istore_n (lv' := [(1, .int (chS k (j + 1))), (0, .int (nI k)), (2, .int (nI (j + 1)))]) hx hb dX4_changes_32 rfl hl (by decide) rfl (fun ls hl => ?_)
        refine lv_iinc (k := 2) (v := (nI (j + 1 + 1))) (lv' := [(2, .int (nI (j + 1 + 1))), (1, .int (chS k (j + 1))), (0, .int (nI k))]) hx hb dX4_changes_33 hl rfl (nI_add (j + 1) 1) (by decide) rfl (fun ls hl => ?_)
        refine lv_goto (tgt := 4) hx hb dX4_changes_36 (by decide) ?_
        exact ih_4 (j + 1) _ _ _ (by omega) (by omega) hP hS (lv_sub hl [2, 1, 0] rfl)
      · refine lv_iconst (v := 0) hx hb dX4_changes_26 (by decide) ?_
        refine lv_goto (tgt := 31) hx hb dX4_changes_27 (by decide) ?_
        refine lv_iadd hx hb dX4_changes_31 ?_
        refine cx_top (show ((chS k j) + 0) = (chS k (j + 1)) from by first | exact ch_t c_23 | exact ch_f c_23) ?_
        refine lv_istore_n (lv' := [(1, .int (chS k (j + 1))), (0, .int (nI k)), (2, .int (nI (j + 1)))]) hx hb dX4_changes_32 rfl hl (by decide) rfl (fun ls hl => ?_)
        refine lv_iinc (k := 2) (v := (nI (j + 1 + 1))) (lv' := [(2, .int (nI (j + 1 + 1))), (1, .int (chS k (j + 1))), (0, .int (nI k))]) hx hb dX4_changes_33 hl rfl (nI_add (j + 1) 1) (by decide) rfl (fun ls hl => ?_)
        refine lv_goto (tgt := 4) hx hb dX4_changes_36 (by decide) ?_
        exact ih_4 (j + 1) _ _ _ (by omega) (by omega) hP hS (lv_sub hl [2, 1, 0] rfl)
set_option maxHeartbeats 4000000 in
set_option maxRecDepth 100000 in
theorem c_X4_wheelNow (l : Launch) (D : va_G) (T : Nat → ClassId) (ad : Nat → Nat) (I : Nat → Int32) (R : Nat → Nat → Int32) (k : Nat) (w : Nat) (hk : k < 8) (hw : w < 4) : Met l yX4_wheelNow wsX4_wheelNow ({ frames := 2, cells := 0, slots := 0, locals := 45 }) (va_Pc [.ref (ad 0), .int (nI k), .int (nI w)] (MR D T ad I R)) (RqI (wnM (R 0) k w)) 0 0 (fun _ => False) := by
  refine Met.ofW (cc := cX4_wheelNow) (maxL := 3) (ret := (some .int)) (by decide) rfl ?_
  intro p e s m args_ below meth c s₁ B hml hv
  obtain ⟨rfl, hP, hK⟩ := hv
  have hx := B.exec
  have hb := B.bytes
  have hr := B.returns
  have hts := atoms_spec (ws := wsX4_wheelNow) B.pre
  have hown : s.vm.findClass RX4 = some m.cls := findClass_of_methodNamed B.named
  have hlocks := B.notSynchronized
  have hinX4 : ∀ w ∈ u_ws RX4 TX4 12, w ∈ wsX4_wheelNow := by decide +kernel
  have hS : va_S (fun _ => False) s.heap s.heap [] := va_S.rf
  have hl := lv_entry ([.ref (ad 0), .int (nI k), .int (nI w)]) (n := 3) (Nat.le_of_ble_eq_true rfl)
  rw [lg_entry_eq]
  generalize (lg_sl ([.ref (ad 0), .int (nI k), .int (nI w)]) ++ List.replicate (3 - (lg_sl ([.ref (ad 0), .int (nI k), .int (nI w)])).length) Slot.unset).toArray = ls at hl ⊢
  have hl : lv_has ls 3 [(0, .ref (ad 0)), (1, .int (nI k)), (2, .int (nI w))] := hl
  refine lv_iload_n hx hb dX4_wheelNow_0 rfl (lv_at hl 2 rfl) ?_
  rcases (show w = 0 ∨ w = 1 ∨ w = 2 ∨ w = 3 by omega) with rfl | rfl | rfl | rfl
  · refine lv_tableIn (tgt := 28) (off := 27) hx hb dX4_wheelNow_1 (by decide) (by decide) (by decide) (by decide) ?_
    refine lv_aload_n hx hb dX4_wheelNow_28 rfl (lv_at hl 0 rfl) ?_
    refine va_get (D := D) (ci := 4) (v := .ref (ad 1)) (C := RX4) (T := TX4) (N := 12) hx hb hts hinX4 hown hK hP 0 mw_0 rfl 1 (by decide) (hts (.fieldLink RX4 7 "SquareGearsModel" "z" "[I") (by decide +kernel)) (fun _ h9 => h9) rfl dX4_wheelNow_29 ?_
    refine lv_iload_n hx hb dX4_wheelNow_32 rfl (lv_at hl 1 rfl) ?_
    refine cx_iald (k := k) hx hb hK hP 1 1 mw_1 rfl (by omega) (by decide) dX4_wheelNow_33 ?_
    exact W.iret (v := ((R 0) k)) hx hb hr (fun t ht hW => ⟨⟨((R 0) k), (), rfl, (rfl), trivial⟩, hS.F ht⟩) hS.2.2 dX4_wheelNow_34
  · refine lv_tableIn (tgt := 35) (off := 34) hx hb dX4_wheelNow_1 (by decide) (by decide) (by decide) (by decide) ?_
    refine lv_aload_n hx hb dX4_wheelNow_35 rfl (lv_at hl 0 rfl) ?_
    refine va_get (D := D) (ci := 4) (v := .ref (ad 1)) (C := RX4) (T := TX4) (N := 12) hx hb hts hinX4 hown hK hP 0 mw_0 rfl 1 (by decide) (hts (.fieldLink RX4 7 "SquareGearsModel" "z" "[I") (by decide +kernel)) (fun _ h9 => h9) rfl dX4_wheelNow_36 ?_
    refine lv_bipush (v := 8) hx hb dX4_wheelNow_39 (by decide) ?_
    refine lv_iload_n hx hb dX4_wheelNow_41 rfl (lv_at hl 1 rfl) ?_
    refine lv_iadd hx hb dX4_wheelNow_42 ?_
    refine cx_top (nI_add 8 k) ?_
    refine cx_iald (k := (8 + k)) hx hb hK hP 1 1 mw_1 rfl (by omega) (by decide) dX4_wheelNow_43 ?_
    exact W.iret (v := ((R 0) (8 + k))) hx hb hr (fun t ht hW => ⟨⟨((R 0) (8 + k)), (), rfl, (rfl), trivial⟩, hS.F ht⟩) hS.2.2 dX4_wheelNow_44
  · refine lv_tableIn (tgt := 45) (off := 44) hx hb dX4_wheelNow_1 (by decide) (by decide) (by decide) (by decide) ?_
    refine lv_aload_n hx hb dX4_wheelNow_45 rfl (lv_at hl 0 rfl) ?_
    refine lv_iload_n hx hb dX4_wheelNow_46 rfl (lv_at hl 1 rfl) ?_
    refine cx_ri (va_runV (As := [.int (nI k)]) (rest := []) ⟨hx, hb, hml, hown, hts⟩ (c_X4_ofPattern l D T ad I R k (hk)) (cwV 1 hts gX4_wheelNow_X4_ofPattern rfl rfl rfl (by decide +kernel) ⟨Nat.le_of_ble_eq_true rfl, Nat.le_of_ble_eq_true rfl⟩) ⟨MR.blind, va_recv hK hP (ci := 4) (q0 := 0) rfl mw_0, (MR.pre hP hK rfl)⟩ rfl rfl hl.1 rfl (lv_room (Nat.le_of_ble_eq_true rfl)) dX4_wheelNow_47 ⟨Nat.le_of_ble_eq_true rfl, Nat.le_of_ble_eq_true rfl⟩) hS hP (fun H locs hP hS => ?_)
    exact W.iret (v := (psS (qz ((R 0))) k 8 >>> (3 : Int32))) hx hb hr (fun t ht hW => ⟨⟨(psS (qz ((R 0))) k 8 >>> (3 : Int32)), (), rfl, (rfl), trivial⟩, hS.F ht⟩) hS.2.2 dX4_wheelNow_50
  · refine lv_tableOut (tgt := 51) hx hb dX4_wheelNow_1 (Or.inr (by decide)) (by decide) ?_
    refine lv_iload_n hx hb dX4_wheelNow_51 rfl (lv_at hl 1 rfl) ?_
    refine cx_ri (va_runS (As := [.int (nI k)]) (rest := []) ⟨hx, hb, hml, hown, hts⟩ (c_X4_changes l  k (hk)) (va_cwS 1 hts gX4_wheelNow_X4_changes rfl rfl rfl (by decide +kernel) ⟨Nat.le_of_ble_eq_true rfl, Nat.le_of_ble_eq_true rfl⟩) ⟨pc_blind, (fun U hU hW => ⟨rfl, trivial⟩)⟩ rfl rfl hl.1 rfl (lv_room (Nat.le_of_ble_eq_true rfl)) dX4_wheelNow_52 ⟨Nat.le_of_ble_eq_true rfl, Nat.le_of_ble_eq_true rfl⟩) hS hP (fun H locs hP hS => ?_)
    exact W.iret (v := (chS k 7)) hx hb hr (fun t ht hW => ⟨⟨(chS k 7), (), rfl, (rfl), trivial⟩, hS.F ht⟩) hS.2.2 dX4_wheelNow_55
set_option maxHeartbeats 4000000 in
set_option maxRecDepth 100000 in
theorem c_X4_pointNow (l : Launch) (D : va_G) (T : Nat → ClassId) (ad : Nat → Nat) (I : Nat → Int32) (R : Nat → Nat → Int32) (n : Nat) (w : Nat) (hn : n < 8) (hw : w < 3) : Met l yX4_pointNow wsX4_pointNow ({ frames := 3, cells := 0, slots := 0, locals := 66 }) (va_Pc [.ref (ad 0), .int (nI n), .int (nI w)] (MR D T ad I R)) (RqI (pnF (qz (R 0)) (us (R 0)) n w)) 0 0 (fun _ => False) := by
  refine Met.ofW (cc := cX4_pointNow) (maxL := 3) (ret := (some .int)) (by decide) rfl ?_
  intro p e s m args_ below meth c s₁ B hml hv
  obtain ⟨rfl, hP, hK⟩ := hv
  have hx := B.exec
  have hb := B.bytes
  have hr := B.returns
  have hts := atoms_spec (ws := wsX4_pointNow) B.pre
  have hown : s.vm.findClass RX4 = some m.cls := findClass_of_methodNamed B.named
  have hlocks := B.notSynchronized
  have hinX4 : ∀ w ∈ u_ws RX4 TX4 12, w ∈ wsX4_pointNow := by decide +kernel
  have hS : va_S (fun _ => False) s.heap s.heap [] := va_S.rf
  have hl := lv_entry ([.ref (ad 0), .int (nI n), .int (nI w)]) (n := 3) (Nat.le_of_ble_eq_true rfl)
  rw [lg_entry_eq]
  generalize (lg_sl ([.ref (ad 0), .int (nI n), .int (nI w)]) ++ List.replicate (3 - (lg_sl ([.ref (ad 0), .int (nI n), .int (nI w)])).length) Slot.unset).toArray = ls at hl ⊢
  have hl : lv_has ls 3 [(0, .ref (ad 0)), (1, .int (nI n)), (2, .int (nI w))] := hl
  rcases (show w = 0 ∨ w = 1 ∨ w = 2 by omega) with rfl | rfl | rfl
  · refine lv_iload_n hx hb dX4_pointNow_0 rfl (lv_at hl 2 rfl) ?_
    refine lv_if_ne (tgt := 16) hx hb dX4_pointNow_1 (by decide) (fun c_1 => absurd c_1 (by decide)) (fun c_1 => ?_)
    refine lv_aload_n hx hb dX4_pointNow_4 rfl (lv_at hl 0 rfl) ?_
    refine va_get (D := D) (ci := 4) (v := .ref (ad 1)) (C := RX4) (T := TX4) (N := 12) hx hb hts hinX4 hown hK hP 0 mw_0 rfl 1 (by decide) (hts (.fieldLink RX4 7 "SquareGearsModel" "z" "[I") (by decide +kernel)) (fun _ h9 => h9) rfl dX4_pointNow_5 ?_
    refine lv_bipush (v := 16) hx hb dX4_pointNow_8 (by decide) ?_
    refine lv_iload_n hx hb dX4_pointNow_10 rfl (lv_at hl 1 rfl) ?_
    refine lv_iadd hx hb dX4_pointNow_11 ?_
    refine cx_top (nI_add 16 n) ?_
    refine cx_iald (k := (16 + n)) hx hb hK hP 1 1 mw_1 rfl (by omega) (by decide) dX4_pointNow_12 ?_
    refine lv_goto (tgt := 34) hx hb dX4_pointNow_13 (by decide) ?_
    exact W.iret (v := ((R 0) (16 + n))) hx hb hr (fun t ht hW => ⟨⟨((R 0) (16 + n)), (), rfl, (rfl), trivial⟩, hS.F ht⟩) hS.2.2 dX4_pointNow_34
  · refine lv_iload_n hx hb dX4_pointNow_0 rfl (lv_at hl 2 rfl) ?_
    refine lv_if_ne (tgt := 16) hx hb dX4_pointNow_1 (by decide) (fun c_1 => ?_) (fun c_1 => absurd c_1 (by decide))
    refine lv_iload_n hx hb dX4_pointNow_16 rfl (lv_at hl 2 rfl) ?_
    refine lv_iconst (v := 1) hx hb dX4_pointNow_17 (by decide) ?_
    refine lv_icmp_ne (tgt := 29) hx hb dX4_pointNow_18 (by decide) (fun c_18 => absurd c_18 (by decide)) (fun c_18 => ?_)
    refine lv_aload_n hx hb dX4_pointNow_21 rfl (lv_at hl 0 rfl) ?_
    refine lv_iload_n hx hb dX4_pointNow_22 rfl (lv_at hl 1 rfl) ?_
    refine cx_ri (va_runV (As := [.int (nI n)]) (rest := []) ⟨hx, hb, hml, hown, hts⟩ (c_X4_difference l D T ad I R n (hn)) (cwV 1 hts gX4_pointNow_X4_difference rfl rfl rfl (by decide +kernel) ⟨Nat.le_of_ble_eq_true rfl, Nat.le_of_ble_eq_true rfl⟩) ⟨MR.blind, va_recv hK hP (ci := 4) (q0 := 0) rfl mw_0, (MR.pre hP hK rfl)⟩ rfl rfl hl.1 rfl (lv_room (Nat.le_of_ble_eq_true rfl)) dX4_pointNow_23 ⟨Nat.le_of_ble_eq_true rfl, Nat.le_of_ble_eq_true rfl⟩) hS hP (fun H locs hP hS => ?_)
    refine lv_goto (tgt := 34) hx hb dX4_pointNow_26 (by decide) ?_
    exact W.iret (v := (diF (qz ((R 0))) (us ((R 0))) n)) hx hb hr (fun t ht hW => ⟨⟨(diF (qz ((R 0))) (us ((R 0))) n), (), rfl, (rfl), trivial⟩, hS.F ht⟩) hS.2.2 dX4_pointNow_34
  · refine lv_iload_n hx hb dX4_pointNow_0 rfl (lv_at hl 2 rfl) ?_
    refine lv_if_ne (tgt := 16) hx hb dX4_pointNow_1 (by decide) (fun c_1 => ?_) (fun c_1 => absurd c_1 (by decide))
    refine lv_iload_n hx hb dX4_pointNow_16 rfl (lv_at hl 2 rfl) ?_
    refine lv_iconst (v := 1) hx hb dX4_pointNow_17 (by decide) ?_
    refine lv_icmp_ne (tgt := 29) hx hb dX4_pointNow_18 (by decide) (fun c_18 => ?_) (fun c_18 => absurd c_18 (by decide))
    refine lv_aload_n hx hb dX4_pointNow_29 rfl (lv_at hl 0 rfl) ?_
    refine lv_iload_n hx hb dX4_pointNow_30 rfl (lv_at hl 1 rfl) ?_
    refine cx_ri (va_runV (As := [.int (nI n)]) (rest := []) ⟨hx, hb, hml, hown, hts⟩ (c_X4_jump l D T ad I R n (hn)) (cwV 1 hts gX4_pointNow_X4_jump rfl rfl rfl (by decide +kernel) ⟨Nat.le_of_ble_eq_true rfl, Nat.le_of_ble_eq_true rfl⟩) ⟨MR.blind, va_recv hK hP (ci := 4) (q0 := 0) rfl mw_0, (MR.pre hP hK rfl)⟩ rfl rfl hl.1 rfl (lv_room (Nat.le_of_ble_eq_true rfl)) dX4_pointNow_31 ⟨Nat.le_of_ble_eq_true rfl, Nat.le_of_ble_eq_true rfl⟩) hS hP (fun H locs hP hS => ?_)
    exact W.iret (v := (juF (us ((R 0))) n)) hx hb hr (fun t ht hW => ⟨⟨(juF (us ((R 0))) n), (), rfl, (rfl), trivial⟩, hS.F ht⟩) hS.2.2 dX4_pointNow_34
set_option maxHeartbeats 4000000 in
set_option maxRecDepth 100000 in
theorem c_X4_lost (l : Launch) (D : va_G) (T : Nat → ClassId) (ad : Nat → Nat) (I : Nat → Int32) (R : Nat → Nat → Int32) : Met l yX4_lost wsX4_lost ({ frames := 0, cells := 0, slots := 0, locals := 0 }) (va_Pc [.ref (ad 0)] (MR D T ad I R)) (RqI (loS (R 0) 8)) 0 0 (fun _ => False) := by
  refine Met.ofW (cc := cX4_lost) (maxL := 3) (ret := (some .int)) (by decide) rfl ?_
  intro p e s m args_ below meth c s₁ B hml hv
  obtain ⟨rfl, hP, hK⟩ := hv
  have hx := B.exec
  have hb := B.bytes
  have hr := B.returns
  have hts := atoms_spec (ws := wsX4_lost) B.pre
  have hown : s.vm.findClass RX4 = some m.cls := findClass_of_methodNamed B.named
  have hlocks := B.notSynchronized
  have hinX4 : ∀ w ∈ u_ws RX4 TX4 12, w ∈ wsX4_lost := by decide +kernel
  have hS : va_S (fun _ => False) s.heap s.heap [] := va_S.rf
  have hl := lv_entry ([.ref (ad 0)]) (n := 3) (Nat.le_of_ble_eq_true rfl)
  rw [lg_entry_eq]
  generalize (lg_sl ([.ref (ad 0)]) ++ List.replicate (3 - (lg_sl ([.ref (ad 0)])).length) Slot.unset).toArray = ls at hl ⊢
  have hl : lv_has ls 3 [(0, .ref (ad 0))] := hl
  refine lv_iconst (v := 0) hx hb dX4_lost_0 (by decide) ?_
  refine lv_istore_n (lv' := [(1, .int 0), (0, .ref (ad 0))]) hx hb dX4_lost_1 rfl hl (by decide) rfl (fun ls hl => ?_)
  refine lv_iconst (v := 0) hx hb dX4_lost_2 (by decide) ?_
  refine lv_istore_n (lv' := [(2, .int 0), (1, .int 0), (0, .ref (ad 0))]) hx hb dX4_lost_3 rfl hl (by decide) rfl (fun ls hl => ?_)
  suffices ih_4 : ∀ (fu : Nat) (i : Nat) (H : Heap) (locs : List Loc) (ls : Array Slot), 8 - i < fu → (i ≤ 8) → va_P D vwCl (mw T ad I R) H →  va_S (fun _ => False) s.heap H locs → lv_has ls 3 [(0, .ref (ad 0)), (1, .int (loS (R 0) i)), (2, .int (nI i))] → W p l e (headSpec wsX4_lost ({ frames := 0, cells := 0, slots := 0, locals := 0 })).room s m ([.ref (ad 0)] : List Value).toArray below meth c H locs 0 0 (MQ below (RqI (loS (R 0) 8)) ([.ref (ad 0)] : List Value).toArray s 0 0 (fun _ => False)) (F0 m 4 ls []) from
    ih_4 _ 0 _ _ _ (Nat.lt_succ_self _) (by omega) hP hS (lv_sub hl [2, 1, 0] rfl)
  intro fu
  induction fu with
  | zero => intro i H locs ls hfu; exact absurd hfu (Nat.not_lt_zero _)
  | succ fu ih_4 =>
    intro i H locs ls hfu hi hP hS hl
    refine lv_iload_n hx hb dX4_lost_4 rfl (lv_at hl 2 rfl) ?_
    refine lv_bipush (v := 8) hx hb dX4_lost_5 (by decide) ?_
    refine lv_icmp_ge (tgt := 28) hx hb dX4_lost_7 (by decide) (fun c_7 => ?_) (fun c_7 => ?_)
    · have c_7 : 8 ≤ i := (nI_leI (a := 8) (b := i) (by omega) (by omega)).mp c_7
      obtain rfl : i = 8 := by omega
      refine lv_iload_n hx hb dX4_lost_28 rfl (lv_at hl 1 rfl) ?_
      exact W.iret (v := (loS (R 0) 8)) hx hb hr (fun t ht hW => ⟨⟨(loS (R 0) 8), (), rfl, (rfl), trivial⟩, hS.F ht⟩) hS.2.2 dX4_lost_29
    · have c_7 : ¬ (8 ≤ i) := fun h => c_7 ((nI_leI (a := 8) (b := i) (by omega) (by omega)).mpr h)
      refine lv_iload_n hx hb dX4_lost_10 rfl (lv_at hl 1 rfl) ?_
      refine lv_aload_n hx hb dX4_lost_11 rfl (lv_at hl 0 rfl) ?_
      refine va_get (D := D) (ci := 4) (v := .ref (ad 1)) (C := RX4) (T := TX4) (N := 12) hx hb hts hinX4 hown hK hP 0 mw_0 rfl 1 (by decide) (hts (.fieldLink RX4 7 "SquareGearsModel" "z" "[I") (by decide +kernel)) (fun _ h9 => h9) rfl dX4_lost_12 ?_
      refine lv_bipush (v := 8) hx hb dX4_lost_15 (by decide) ?_
      refine lv_iload_n hx hb dX4_lost_17 rfl (lv_at hl 2 rfl) ?_
      refine lv_iadd hx hb dX4_lost_18 ?_
      refine cx_top (nI_add 8 i) ?_
      refine cx_iald (k := (8 + i)) hx hb hK hP 1 1 mw_1 rfl (by omega) (by decide) dX4_lost_19 ?_
      refine lv_iadd hx hb dX4_lost_20 ?_
      refine lv_istore_n (lv' := [(1, .int ((loS (R 0) i) + ((R 0) (8 + i)))), (0, .ref (ad 0)), (2, .int (nI i))]) hx hb dX4_lost_21 rfl hl (by decide) rfl (fun ls hl => ?_)
      refine lv_iinc (k := 2) (v := (nI (i + 1))) (lv' := [(2, .int (nI (i + 1))), (1, .int ((loS (R 0) i) + ((R 0) (8 + i)))), (0, .ref (ad 0))]) hx hb dX4_lost_22 hl rfl (nI_add i 1) (by decide) rfl (fun ls hl => ?_)
      refine lv_goto (tgt := 4) hx hb dX4_lost_25 (by decide) ?_
      exact ih_4 (i + 1) _ _ _ (by omega) (by omega) hP hS (lv_sub hl [2, 1, 0] rfl)
set_option maxHeartbeats 4000000 in
set_option maxRecDepth 100000 in
theorem c_X4_greatestTrace (l : Launch) (D : va_G) (T : Nat → ClassId) (ad : Nat → Nat) (I : Nat → Int32) (R : Nat → Nat → Int32) : Met l yX4_greatestTrace wsX4_greatestTrace ({ frames := 2, cells := 0, slots := 0, locals := 45 }) (va_Pc [.ref (ad 0)] (MR D T ad I R)) (RqI (gtS (us (R 0)) 7)) 0 0 (fun _ => False) := by
  refine Met.ofW (cc := cX4_greatestTrace) (maxL := 3) (ret := (some .int)) (by decide) rfl ?_
  intro p e s m args_ below meth c s₁ B hml hv
  obtain ⟨rfl, hP, hK⟩ := hv
  have hx := B.exec
  have hb := B.bytes
  have hr := B.returns
  have hts := atoms_spec (ws := wsX4_greatestTrace) B.pre
  have hown : s.vm.findClass RX4 = some m.cls := findClass_of_methodNamed B.named
  have hlocks := B.notSynchronized
  have hS : va_S (fun _ => False) s.heap s.heap [] := va_S.rf
  have hl := lv_entry ([.ref (ad 0)]) (n := 3) (Nat.le_of_ble_eq_true rfl)
  rw [lg_entry_eq]
  generalize (lg_sl ([.ref (ad 0)]) ++ List.replicate (3 - (lg_sl ([.ref (ad 0)])).length) Slot.unset).toArray = ls at hl ⊢
  have hl : lv_has ls 3 [(0, .ref (ad 0))] := hl
  refine lv_aload_n hx hb dX4_greatestTrace_0 rfl (lv_at hl 0 rfl) ?_
  refine lv_iconst (v := 0) hx hb dX4_greatestTrace_1 (by decide) ?_
  refine cx_ri (va_runV (As := [.int 0]) (rest := []) ⟨hx, hb, hml, hown, hts⟩ (c_X4_traceAt l D T ad I R 0 (by decide)) (cwV 1 hts gX4_greatestTrace_X4_traceAt rfl rfl rfl (by decide +kernel) ⟨Nat.le_of_ble_eq_true rfl, Nat.le_of_ble_eq_true rfl⟩) ⟨MR.blind, va_recv hK hP (ci := 4) (q0 := 0) rfl mw_0, (MR.pre hP hK rfl)⟩ rfl rfl hl.1 rfl (lv_room (Nat.le_of_ble_eq_true rfl)) dX4_greatestTrace_2 ⟨Nat.le_of_ble_eq_true rfl, Nat.le_of_ble_eq_true rfl⟩) hS hP (fun H locs hP hS => ?_)
  refine lv_istore_n (lv' := [(1, .int (trS (us ((R 0))) 0 8)), (0, .ref (ad 0))]) hx hb dX4_greatestTrace_5 rfl hl (by decide) rfl (fun ls hl => ?_)
  refine lv_iconst (v := 1) hx hb dX4_greatestTrace_6 (by decide) ?_
  refine lv_istore_n (lv' := [(2, .int 1), (1, .int (trS (us ((R 0))) 0 8)), (0, .ref (ad 0))]) hx hb dX4_greatestTrace_7 rfl hl (by decide) rfl (fun ls hl => ?_)
  suffices ih_8 : ∀ (fu : Nat) (j : Nat) (y : Int32) (H : Heap) (locs : List Loc) (ls : Array Slot), 7 - j < fu → (j ≤ 7) → (y = gtS (us (R 0)) j) → va_P D vwCl (mw T ad I R) H →  va_S (fun _ => False) s.heap H locs → lv_has ls 3 [(0, .ref (ad 0)), (1, .int y), (2, .int (nI (j + 1)))] → W p l e (headSpec wsX4_greatestTrace ({ frames := 2, cells := 0, slots := 0, locals := 45 })).room s m ([.ref (ad 0)] : List Value).toArray below meth c H locs 0 0 (MQ below (RqI (gtS (us (R 0)) 7)) ([.ref (ad 0)] : List Value).toArray s 0 0 (fun _ => False)) (F0 m 8 ls []) from
    ih_8 _ 0 (trS (us ((R 0))) 0 8) _ _ _ (Nat.lt_succ_self _) (by omega) (rfl) hP hS (lv_sub hl [2, 1, 0] rfl)
  intro fu
  induction fu with
  | zero => intro j y H locs ls hfu; exact absurd hfu (Nat.not_lt_zero _)
  | succ fu ih_8 =>
    intro j y H locs ls hfu hj hy hP hS hl
    refine lv_iload_n hx hb dX4_greatestTrace_8 rfl (lv_at hl 2 rfl) ?_
    refine lv_bipush (v := 8) hx hb dX4_greatestTrace_9 (by decide) ?_
    refine lv_icmp_ge (tgt := 39) hx hb dX4_greatestTrace_11 (by decide) (fun c_11 => ?_) (fun c_11 => ?_)
    · have c_11 : 8 ≤ (j + 1) := (nI_leI (a := 8) (b := (j + 1)) (by omega) (by omega)).mp c_11
      obtain rfl : j = 7 := by omega
      refine lv_iload_n hx hb dX4_greatestTrace_39 rfl (lv_at hl 1 rfl) ?_
      exact W.iret (v := y) hx hb hr (fun t ht hW => ⟨⟨y, (), rfl, (hy), trivial⟩, hS.F ht⟩) hS.2.2 dX4_greatestTrace_40
    · have c_11 : ¬ (8 ≤ (j + 1)) := fun h => c_11 ((nI_leI (a := 8) (b := (j + 1)) (by omega) (by omega)).mpr h)
      refine lv_aload_n hx hb dX4_greatestTrace_14 rfl (lv_at hl 0 rfl) ?_
      refine lv_iload_n hx hb dX4_greatestTrace_15 rfl (lv_at hl 2 rfl) ?_
      refine cx_ri (va_runV (As := [.int (nI (j + 1))]) (rest := []) ⟨hx, hb, hml, hown, hts⟩ (c_X4_traceAt l D T ad I R (j + 1) (by omega)) (cwV 1 hts gX4_greatestTrace_X4_traceAt rfl rfl rfl (by decide +kernel) ⟨Nat.le_of_ble_eq_true rfl, Nat.le_of_ble_eq_true rfl⟩) ⟨MR.blind, va_recv hK hP (ci := 4) (q0 := 0) rfl mw_0, (MR.pre hP hK rfl)⟩ rfl rfl hl.1 rfl (lv_room (Nat.le_of_ble_eq_true rfl)) dX4_greatestTrace_16 ⟨Nat.le_of_ble_eq_true rfl, Nat.le_of_ble_eq_true rfl⟩) hS hP (fun H locs hP hS => ?_)
      refine lv_iload_n hx hb dX4_greatestTrace_19 rfl (lv_at hl 1 rfl) ?_
      refine lv_icmp_le (tgt := 31) hx hb dX4_greatestTrace_20 (by decide) (fun c_20 => ?_) (fun c_20 => ?_)
      · refine lv_iload_n hx hb dX4_greatestTrace_31 rfl (lv_at hl 1 rfl) ?_
        refine lv_istore_n (lv' := [(1, .int y), (0, .ref (ad 0)), (2, .int (nI (j + 1)))]) hx hb dX4_greatestTrace_32 rfl hl (by decide) rfl (fun ls hl => ?_)
        refine lv_iinc (k := 2) (v := (nI (j + 1 + 1))) (lv' := [(2, .int (nI (j + 1 + 1))), (1, .int y), (0, .ref (ad 0))]) hx hb dX4_greatestTrace_33 hl rfl (nI_add (j + 1) 1) (by decide) rfl (fun ls hl => ?_)
        refine lv_goto (tgt := 8) hx hb dX4_greatestTrace_36 (by decide) ?_
        exact ih_8 (j + 1) y _ _ _ (by omega) (by omega) (by first | exact gtm_a hy c_20 | exact gtm_b hy c_20) hP hS (lv_sub hl [2, 1, 0] rfl)
      · refine lv_aload_n hx hb dX4_greatestTrace_23 rfl (lv_at hl 0 rfl) ?_
        refine lv_iload_n hx hb dX4_greatestTrace_24 rfl (lv_at hl 2 rfl) ?_
        refine cx_ri (va_runV (As := [.int (nI (j + 1))]) (rest := []) ⟨hx, hb, hml, hown, hts⟩ (c_X4_traceAt l D T ad I R (j + 1) (by omega)) (cwV 1 hts gX4_greatestTrace_X4_traceAt rfl rfl rfl (by decide +kernel) ⟨Nat.le_of_ble_eq_true rfl, Nat.le_of_ble_eq_true rfl⟩) ⟨MR.blind, va_recv hK hP (ci := 4) (q0 := 0) rfl mw_0, (MR.pre hP hK rfl)⟩ rfl rfl hl.1 rfl (lv_room (Nat.le_of_ble_eq_true rfl)) dX4_greatestTrace_25 ⟨Nat.le_of_ble_eq_true rfl, Nat.le_of_ble_eq_true rfl⟩) hS hP (fun H locs hP hS => ?_)
        refine lv_goto (tgt := 32) hx hb dX4_greatestTrace_28 (by decide) ?_
        refine lv_istore_n (lv' := [(1, .int (trS (us ((R 0))) (j + 1) 8)), (0, .ref (ad 0)), (2, .int (nI (j + 1)))]) hx hb dX4_greatestTrace_32 rfl hl (by decide) rfl (fun ls hl => ?_)
        refine lv_iinc (k := 2) (v := (nI (j + 1 + 1))) (lv' := [(2, .int (nI (j + 1 + 1))), (1, .int (trS (us ((R 0))) (j + 1) 8)), (0, .ref (ad 0))]) hx hb dX4_greatestTrace_33 hl rfl (nI_add (j + 1) 1) (by decide) rfl (fun ls hl => ?_)
        refine lv_goto (tgt := 8) hx hb dX4_greatestTrace_36 (by decide) ?_
        exact ih_8 (j + 1) (trS (us ((R 0))) (j + 1) 8) _ _ _ (by omega) (by omega) (by first | exact gtm_a hy c_20 | exact gtm_b hy c_20) hP hS (lv_sub hl [2, 1, 0] rfl)
set_option maxHeartbeats 4000000 in
set_option maxRecDepth 100000 in
theorem c_X4_leastTrace (l : Launch) (D : va_G) (T : Nat → ClassId) (ad : Nat → Nat) (I : Nat → Int32) (R : Nat → Nat → Int32) : Met l yX4_leastTrace wsX4_leastTrace ({ frames := 2, cells := 0, slots := 0, locals := 45 }) (va_Pc [.ref (ad 0)] (MR D T ad I R)) (RqI (ltS (us (R 0)) 7)) 0 0 (fun _ => False) := by
  refine Met.ofW (cc := cX4_leastTrace) (maxL := 3) (ret := (some .int)) (by decide) rfl ?_
  intro p e s m args_ below meth c s₁ B hml hv
  obtain ⟨rfl, hP, hK⟩ := hv
  have hx := B.exec
  have hb := B.bytes
  have hr := B.returns
  have hts := atoms_spec (ws := wsX4_leastTrace) B.pre
  have hown : s.vm.findClass RX4 = some m.cls := findClass_of_methodNamed B.named
  have hlocks := B.notSynchronized
  have hS : va_S (fun _ => False) s.heap s.heap [] := va_S.rf
  have hl := lv_entry ([.ref (ad 0)]) (n := 3) (Nat.le_of_ble_eq_true rfl)
  rw [lg_entry_eq]
  generalize (lg_sl ([.ref (ad 0)]) ++ List.replicate (3 - (lg_sl ([.ref (ad 0)])).length) Slot.unset).toArray = ls at hl ⊢
  have hl : lv_has ls 3 [(0, .ref (ad 0))] := hl
  refine lv_aload_n hx hb dX4_leastTrace_0 rfl (lv_at hl 0 rfl) ?_
  refine lv_iconst (v := 0) hx hb dX4_leastTrace_1 (by decide) ?_
  refine cx_ri (va_runV (As := [.int 0]) (rest := []) ⟨hx, hb, hml, hown, hts⟩ (c_X4_traceAt l D T ad I R 0 (by decide)) (cwV 1 hts gX4_leastTrace_X4_traceAt rfl rfl rfl (by decide +kernel) ⟨Nat.le_of_ble_eq_true rfl, Nat.le_of_ble_eq_true rfl⟩) ⟨MR.blind, va_recv hK hP (ci := 4) (q0 := 0) rfl mw_0, (MR.pre hP hK rfl)⟩ rfl rfl hl.1 rfl (lv_room (Nat.le_of_ble_eq_true rfl)) dX4_leastTrace_2 ⟨Nat.le_of_ble_eq_true rfl, Nat.le_of_ble_eq_true rfl⟩) hS hP (fun H locs hP hS => ?_)
  refine lv_istore_n (lv' := [(1, .int (trS (us ((R 0))) 0 8)), (0, .ref (ad 0))]) hx hb dX4_leastTrace_5 rfl hl (by decide) rfl (fun ls hl => ?_)
  refine lv_iconst (v := 1) hx hb dX4_leastTrace_6 (by decide) ?_
  refine lv_istore_n (lv' := [(2, .int 1), (1, .int (trS (us ((R 0))) 0 8)), (0, .ref (ad 0))]) hx hb dX4_leastTrace_7 rfl hl (by decide) rfl (fun ls hl => ?_)
  suffices ih_8 : ∀ (fu : Nat) (j : Nat) (y : Int32) (H : Heap) (locs : List Loc) (ls : Array Slot), 7 - j < fu → (j ≤ 7) → (y = ltS (us (R 0)) j) → va_P D vwCl (mw T ad I R) H →  va_S (fun _ => False) s.heap H locs → lv_has ls 3 [(0, .ref (ad 0)), (1, .int y), (2, .int (nI (j + 1)))] → W p l e (headSpec wsX4_leastTrace ({ frames := 2, cells := 0, slots := 0, locals := 45 })).room s m ([.ref (ad 0)] : List Value).toArray below meth c H locs 0 0 (MQ below (RqI (ltS (us (R 0)) 7)) ([.ref (ad 0)] : List Value).toArray s 0 0 (fun _ => False)) (F0 m 8 ls []) from
    ih_8 _ 0 (trS (us ((R 0))) 0 8) _ _ _ (Nat.lt_succ_self _) (by omega) (rfl) hP hS (lv_sub hl [2, 1, 0] rfl)
  intro fu
  induction fu with
  | zero => intro j y H locs ls hfu; exact absurd hfu (Nat.not_lt_zero _)
  | succ fu ih_8 =>
    intro j y H locs ls hfu hj hy hP hS hl
    refine lv_iload_n hx hb dX4_leastTrace_8 rfl (lv_at hl 2 rfl) ?_
    refine lv_bipush (v := 8) hx hb dX4_leastTrace_9 (by decide) ?_
    refine lv_icmp_ge (tgt := 39) hx hb dX4_leastTrace_11 (by decide) (fun c_11 => ?_) (fun c_11 => ?_)
    · have c_11 : 8 ≤ (j + 1) := (nI_leI (a := 8) (b := (j + 1)) (by omega) (by omega)).mp c_11
      obtain rfl : j = 7 := by omega
      refine lv_iload_n hx hb dX4_leastTrace_39 rfl (lv_at hl 1 rfl) ?_
      exact W.iret (v := y) hx hb hr (fun t ht hW => ⟨⟨y, (), rfl, (hy), trivial⟩, hS.F ht⟩) hS.2.2 dX4_leastTrace_40
    · have c_11 : ¬ (8 ≤ (j + 1)) := fun h => c_11 ((nI_leI (a := 8) (b := (j + 1)) (by omega) (by omega)).mpr h)
      refine lv_aload_n hx hb dX4_leastTrace_14 rfl (lv_at hl 0 rfl) ?_
      refine lv_iload_n hx hb dX4_leastTrace_15 rfl (lv_at hl 2 rfl) ?_
      refine cx_ri (va_runV (As := [.int (nI (j + 1))]) (rest := []) ⟨hx, hb, hml, hown, hts⟩ (c_X4_traceAt l D T ad I R (j + 1) (by omega)) (cwV 1 hts gX4_leastTrace_X4_traceAt rfl rfl rfl (by decide +kernel) ⟨Nat.le_of_ble_eq_true rfl, Nat.le_of_ble_eq_true rfl⟩) ⟨MR.blind, va_recv hK hP (ci := 4) (q0 := 0) rfl mw_0, (MR.pre hP hK rfl)⟩ rfl rfl hl.1 rfl (lv_room (Nat.le_of_ble_eq_true rfl)) dX4_leastTrace_16 ⟨Nat.le_of_ble_eq_true rfl, Nat.le_of_ble_eq_true rfl⟩) hS hP (fun H locs hP hS => ?_)
      refine lv_iload_n hx hb dX4_leastTrace_19 rfl (lv_at hl 1 rfl) ?_
      refine lv_icmp_ge (tgt := 31) hx hb dX4_leastTrace_20 (by decide) (fun c_20 => ?_) (fun c_20 => ?_)
      · refine lv_iload_n hx hb dX4_leastTrace_31 rfl (lv_at hl 1 rfl) ?_
        refine lv_istore_n (lv' := [(1, .int y), (0, .ref (ad 0)), (2, .int (nI (j + 1)))]) hx hb dX4_leastTrace_32 rfl hl (by decide) rfl (fun ls hl => ?_)
        refine lv_iinc (k := 2) (v := (nI (j + 1 + 1))) (lv' := [(2, .int (nI (j + 1 + 1))), (1, .int y), (0, .ref (ad 0))]) hx hb dX4_leastTrace_33 hl rfl (nI_add (j + 1) 1) (by decide) rfl (fun ls hl => ?_)
        refine lv_goto (tgt := 8) hx hb dX4_leastTrace_36 (by decide) ?_
        exact ih_8 (j + 1) y _ _ _ (by omega) (by omega) (by first | exact ltm_a hy c_20 | exact ltm_b hy c_20) hP hS (lv_sub hl [2, 1, 0] rfl)
      · refine lv_aload_n hx hb dX4_leastTrace_23 rfl (lv_at hl 0 rfl) ?_
        refine lv_iload_n hx hb dX4_leastTrace_24 rfl (lv_at hl 2 rfl) ?_
        refine cx_ri (va_runV (As := [.int (nI (j + 1))]) (rest := []) ⟨hx, hb, hml, hown, hts⟩ (c_X4_traceAt l D T ad I R (j + 1) (by omega)) (cwV 1 hts gX4_leastTrace_X4_traceAt rfl rfl rfl (by decide +kernel) ⟨Nat.le_of_ble_eq_true rfl, Nat.le_of_ble_eq_true rfl⟩) ⟨MR.blind, va_recv hK hP (ci := 4) (q0 := 0) rfl mw_0, (MR.pre hP hK rfl)⟩ rfl rfl hl.1 rfl (lv_room (Nat.le_of_ble_eq_true rfl)) dX4_leastTrace_25 ⟨Nat.le_of_ble_eq_true rfl, Nat.le_of_ble_eq_true rfl⟩) hS hP (fun H locs hP hS => ?_)
        refine lv_goto (tgt := 32) hx hb dX4_leastTrace_28 (by decide) ?_
        refine lv_istore_n (lv' := [(1, .int (trS (us ((R 0))) (j + 1) 8)), (0, .ref (ad 0)), (2, .int (nI (j + 1)))]) hx hb dX4_leastTrace_32 rfl hl (by decide) rfl (fun ls hl => ?_)
        refine lv_iinc (k := 2) (v := (nI (j + 1 + 1))) (lv' := [(2, .int (nI (j + 1 + 1))), (1, .int (trS (us ((R 0))) (j + 1) 8)), (0, .ref (ad 0))]) hx hb dX4_leastTrace_33 hl rfl (nI_add (j + 1) 1) (by decide) rfl (fun ls hl => ?_)
        refine lv_goto (tgt := 8) hx hb dX4_leastTrace_36 (by decide) ?_
        exact ih_8 (j + 1) (trS (us ((R 0))) (j + 1) 8) _ _ _ (by omega) (by omega) (by first | exact ltm_a hy c_20 | exact ltm_b hy c_20) hP hS (lv_sub hl [2, 1, 0] rfl)
set_option maxHeartbeats 4000000 in
set_option maxRecDepth 100000 in
theorem c_X4_greatest (l : Launch) (D : va_G) (T : Nat → ClassId) (ad : Nat → Nat) (I : Nat → Int32) (R : Nat → Nat → Int32) (w : Nat) (hw : w < 3) : Met l yX4_greatest wsX4_greatest ({ frames := 4, cells := 0, slots := 0, locals := 88 }) (va_Pc [.ref (ad 0), .int (nI w)] (MR D T ad I R)) (RqI (gaS (fun n => pnF (qz (R 0)) (us (R 0)) n w) 8)) 0 0 (fun _ => False) := by
  refine Met.ofW (cc := cX4_greatest) (maxL := 5) (ret := (some .int)) (by decide) rfl ?_
  intro p e s m args_ below meth c s₁ B hml hv
  obtain ⟨rfl, hP, hK⟩ := hv
  have hx := B.exec
  have hb := B.bytes
  have hr := B.returns
  have hts := atoms_spec (ws := wsX4_greatest) B.pre
  have hown : s.vm.findClass RX4 = some m.cls := findClass_of_methodNamed B.named
  have hlocks := B.notSynchronized
  have hS : va_S (fun _ => False) s.heap s.heap [] := va_S.rf
  have hl := lv_entry ([.ref (ad 0), .int (nI w)]) (n := 5) (Nat.le_of_ble_eq_true rfl)
  rw [lg_entry_eq]
  generalize (lg_sl ([.ref (ad 0), .int (nI w)]) ++ List.replicate (5 - (lg_sl ([.ref (ad 0), .int (nI w)])).length) Slot.unset).toArray = ls at hl ⊢
  have hl : lv_has ls 5 [(0, .ref (ad 0)), (1, .int (nI w))] := hl
  refine lv_iconst (v := 0) hx hb dX4_greatest_0 (by decide) ?_
  refine lv_istore_n (lv' := [(2, .int 0), (0, .ref (ad 0)), (1, .int (nI w))]) hx hb dX4_greatest_1 rfl hl (by decide) rfl (fun ls hl => ?_)
  refine lv_iconst (v := 0) hx hb dX4_greatest_2 (by decide) ?_
  refine lv_istore_n (lv' := [(3, .int 0), (2, .int 0), (0, .ref (ad 0)), (1, .int (nI w))]) hx hb dX4_greatest_3 rfl hl (by decide) rfl (fun ls hl => ?_)
  suffices ih_4 : ∀ (fu : Nat) (i : Nat) (y : Int32) (H : Heap) (locs : List Loc) (ls : Array Slot), 8 - i < fu → (i ≤ 8) → (y = gaS (fun n => pnF (qz (R 0)) (us (R 0)) n w) i) → va_P D vwCl (mw T ad I R) H →  va_S (fun _ => False) s.heap H locs → lv_has ls 5 [(0, .ref (ad 0)), (1, .int (nI w)), (2, .int y), (3, .int (nI i))] → W p l e (headSpec wsX4_greatest ({ frames := 4, cells := 0, slots := 0, locals := 88 })).room s m ([.ref (ad 0), .int (nI w)] : List Value).toArray below meth c H locs 0 0 (MQ below (RqI (gaS (fun n => pnF (qz (R 0)) (us (R 0)) n w) 8)) ([.ref (ad 0), .int (nI w)] : List Value).toArray s 0 0 (fun _ => False)) (F0 m 4 ls []) from
    ih_4 _ 0 0 _ _ _ (Nat.lt_succ_self _) (by omega) (rfl) hP hS (lv_sub hl [2, 3, 1, 0] rfl)
  intro fu
  induction fu with
  | zero => intro i y H locs ls hfu; exact absurd hfu (Nat.not_lt_zero _)
  | succ fu ih_4 =>
    intro i y H locs ls hfu hi hy hP hS hl
    refine lv_iload_n hx hb dX4_greatest_4 rfl (lv_at hl 3 rfl) ?_
    refine lv_bipush (v := 8) hx hb dX4_greatest_5 (by decide) ?_
    refine lv_icmp_ge (tgt := 40) hx hb dX4_greatest_7 (by decide) (fun c_7 => ?_) (fun c_7 => ?_)
    · have c_7 : 8 ≤ i := (nI_leI (a := 8) (b := i) (by omega) (by omega)).mp c_7
      obtain rfl : i = 8 := by omega
      refine lv_iload_n hx hb dX4_greatest_40 rfl (lv_at hl 2 rfl) ?_
      exact W.iret (v := y) hx hb hr (fun t ht hW => ⟨⟨y, (), rfl, (hy), trivial⟩, hS.F ht⟩) hS.2.2 dX4_greatest_41
    · have c_7 : ¬ (8 ≤ i) := fun h => c_7 ((nI_leI (a := 8) (b := i) (by omega) (by omega)).mpr h)
      refine lv_aload_n hx hb dX4_greatest_10 rfl (lv_at hl 0 rfl) ?_
      refine lv_iload_n hx hb dX4_greatest_11 rfl (lv_at hl 3 rfl) ?_
      refine lv_iload_n hx hb dX4_greatest_12 rfl (lv_at hl 1 rfl) ?_
      refine cx_ri (va_runV (As := [.int (nI i), .int (nI w)]) (rest := []) ⟨hx, hb, hml, hown, hts⟩ (c_X4_pointNow l D T ad I R i w (by omega) (hw)) (cwV 2 hts gX4_greatest_X4_pointNow rfl rfl rfl (by decide +kernel) ⟨Nat.le_of_ble_eq_true rfl, Nat.le_of_ble_eq_true rfl⟩) ⟨MR.blind, va_recv hK hP (ci := 4) (q0 := 0) rfl mw_0, (MR.pre hP hK rfl)⟩ rfl rfl hl.1 rfl (lv_room (Nat.le_of_ble_eq_true rfl)) dX4_greatest_13 ⟨Nat.le_of_ble_eq_true rfl, Nat.le_of_ble_eq_true rfl⟩) hS hP (fun H locs hP hS => ?_)
      refine cx_ri (va_runS (As := [.int (pnF (qz ((R 0))) (us ((R 0))) i w)]) (rest := []) ⟨hx, hb, hml, hown, hts⟩ (c_X4_amount l  (pnF (qz ((R 0))) (us ((R 0))) i w)) (va_cwS 1 hts gX4_greatest_X4_amount rfl rfl rfl (by decide +kernel) ⟨Nat.le_of_ble_eq_true rfl, Nat.le_of_ble_eq_true rfl⟩) ⟨pc_blind, (fun U hU hW => ⟨rfl, trivial⟩)⟩ rfl rfl hl.1 rfl (lv_room (Nat.le_of_ble_eq_true rfl)) dX4_greatest_16 ⟨Nat.le_of_ble_eq_true rfl, Nat.le_of_ble_eq_true rfl⟩) hS hP (fun H locs hP hS => ?_)
      refine lv_istore (lv' := [(4, .int (abI (pnF (qz ((R 0))) (us ((R 0))) i w))), (0, .ref (ad 0)), (1, .int (nI w)), (2, .int y), (3, .int (nI i))]) hx hb dX4_greatest_19 hl (by decide) rfl (fun ls hl => ?_)
      refine lv_iload hx hb dX4_greatest_21 (lv_at hl 0 rfl) ?_
      refine lv_iload_n hx hb dX4_greatest_23 rfl (lv_at hl 3 rfl) ?_
      refine lv_icmp_le (tgt := 32) hx hb dX4_greatest_24 (by decide) (fun c_24 => ?_) (fun c_24 => ?_)
      · refine lv_iload_n hx hb dX4_greatest_32 rfl (lv_at hl 3 rfl) ?_
        refine lv_istore_n (lv' := [(2, .int y), (4, .int (abI (pnF (qz ((R 0))) (us ((R 0))) i w))), (0, .ref (ad 0)), (1, .int (nI w)), (3, .int (nI i))]) hx hb dX4_greatest_33 rfl hl (by decide) rfl (fun ls hl => ?_)
        refine lv_iinc (k := 4) (v := (nI (i + 1))) (lv' := [(3, .int (nI (i + 1))), (2, .int y), (4, .int (abI (pnF (qz ((R 0))) (us ((R 0))) i w))), (0, .ref (ad 0)), (1, .int (nI w))]) hx hb dX4_greatest_34 hl rfl (nI_add i 1) (by decide) rfl (fun ls hl => ?_)
        refine lv_goto (tgt := 4) hx hb dX4_greatest_37 (by decide) ?_
        exact ih_4 (i + 1) y _ _ _ (by omega) (by omega) (by first | exact gam_a hy c_24 | exact gam_b hy c_24) hP hS (lv_sub hl [3, 4, 1, 0] rfl)
      · refine lv_iload hx hb dX4_greatest_27 (lv_at hl 0 rfl) ?_
        refine lv_goto (tgt := 33) hx hb dX4_greatest_29 (by decide) ?_
        refine lv_istore_n (lv' := [(2, .int (abI (pnF (qz ((R 0))) (us ((R 0))) i w))), (4, .int (abI (pnF (qz ((R 0))) (us ((R 0))) i w))), (0, .ref (ad 0)), (1, .int (nI w)), (3, .int (nI i))]) hx hb dX4_greatest_33 rfl hl (by decide) rfl (fun ls hl => ?_)
        refine lv_iinc (k := 4) (v := (nI (i + 1))) (lv' := [(3, .int (nI (i + 1))), (2, .int (abI (pnF (qz ((R 0))) (us ((R 0))) i w))), (4, .int (abI (pnF (qz ((R 0))) (us ((R 0))) i w))), (0, .ref (ad 0)), (1, .int (nI w))]) hx hb dX4_greatest_34 hl rfl (nI_add i 1) (by decide) rfl (fun ls hl => ?_)
        refine lv_goto (tgt := 4) hx hb dX4_greatest_37 (by decide) ?_
        exact ih_4 (i + 1) (abI (pnF (qz ((R 0))) (us ((R 0))) i w)) _ _ _ (by omega) (by omega) (by first | exact gam_a hy c_24 | exact gam_b hy c_24) hP hS (lv_sub hl [3, 4, 1, 0] rfl)
set_option maxHeartbeats 4000000 in
set_option maxRecDepth 100000 in
theorem c_X4_overshoot (l : Launch) (D : va_G) (T : Nat → ClassId) (ad : Nat → Nat) (I : Nat → Int32) (R : Nat → Nat → Int32) : Met l yX4_overshoot wsX4_overshoot ({ frames := 3, cells := 0, slots := 0, locals := 67 }) (va_Pc [.ref (ad 0)] (MR D T ad I R)) (RqI (ovM (us (R 0)))) 0 0 (fun _ => False) := by
  refine Met.ofW (cc := cX4_overshoot) (maxL := 3) (ret := (some .int)) (by decide) rfl ?_
  intro p e s m args_ below meth c s₁ B hml hv
  obtain ⟨rfl, hP, hK⟩ := hv
  have hx := B.exec
  have hb := B.bytes
  have hr := B.returns
  have hts := atoms_spec (ws := wsX4_overshoot) B.pre
  have hown : s.vm.findClass RX4 = some m.cls := findClass_of_methodNamed B.named
  have hlocks := B.notSynchronized
  have hS : va_S (fun _ => False) s.heap s.heap [] := va_S.rf
  have hl := lv_entry ([.ref (ad 0)]) (n := 3) (Nat.le_of_ble_eq_true rfl)
  rw [lg_entry_eq]
  generalize (lg_sl ([.ref (ad 0)]) ++ List.replicate (3 - (lg_sl ([.ref (ad 0)])).length) Slot.unset).toArray = ls at hl ⊢
  have hl : lv_has ls 3 [(0, .ref (ad 0))] := hl
  refine lv_aload_n hx hb dX4_overshoot_0 rfl (lv_at hl 0 rfl) ?_
  refine cx_ri (va_runV (As := []) (rest := []) ⟨hx, hb, hml, hown, hts⟩ (c_X4_greatestTrace l D T ad I R ) (cwV 0 hts gX4_overshoot_X4_greatestTrace rfl rfl rfl (by decide +kernel) ⟨Nat.le_of_ble_eq_true rfl, Nat.le_of_ble_eq_true rfl⟩) ⟨MR.blind, va_recv hK hP (ci := 4) (q0 := 0) rfl mw_0, (MR.pre hP hK rfl)⟩ rfl rfl hl.1 rfl (lv_room (Nat.le_of_ble_eq_true rfl)) dX4_overshoot_1 ⟨Nat.le_of_ble_eq_true rfl, Nat.le_of_ble_eq_true rfl⟩) hS hP (fun H locs hP hS => ?_)
  refine cx_ri (va_runS (As := [.int (gtS (us ((R 0))) 7)]) (rest := []) ⟨hx, hb, hml, hown, hts⟩ (c_X4_amount l  (gtS (us ((R 0))) 7)) (va_cwS 1 hts gX4_overshoot_X4_amount rfl rfl rfl (by decide +kernel) ⟨Nat.le_of_ble_eq_true rfl, Nat.le_of_ble_eq_true rfl⟩) ⟨pc_blind, (fun U hU hW => ⟨rfl, trivial⟩)⟩ rfl rfl hl.1 rfl (lv_room (Nat.le_of_ble_eq_true rfl)) dX4_overshoot_4 ⟨Nat.le_of_ble_eq_true rfl, Nat.le_of_ble_eq_true rfl⟩) hS hP (fun H locs hP hS => ?_)
  refine lv_istore_n (lv' := [(1, .int (abI (gtS (us ((R 0))) 7))), (0, .ref (ad 0))]) hx hb dX4_overshoot_7 rfl hl (by decide) rfl (fun ls hl => ?_)
  refine lv_aload_n hx hb dX4_overshoot_8 rfl (lv_at hl 1 rfl) ?_
  refine cx_ri (va_runV (As := []) (rest := []) ⟨hx, hb, hml, hown, hts⟩ (c_X4_leastTrace l D T ad I R ) (cwV 0 hts gX4_overshoot_X4_leastTrace rfl rfl rfl (by decide +kernel) ⟨Nat.le_of_ble_eq_true rfl, Nat.le_of_ble_eq_true rfl⟩) ⟨MR.blind, va_recv hK hP (ci := 4) (q0 := 0) rfl mw_0, (MR.pre hP hK rfl)⟩ rfl rfl hl.1 rfl (lv_room (Nat.le_of_ble_eq_true rfl)) dX4_overshoot_9 ⟨Nat.le_of_ble_eq_true rfl, Nat.le_of_ble_eq_true rfl⟩) hS hP (fun H locs hP hS => ?_)
  refine cx_ri (va_runS (As := [.int (ltS (us ((R 0))) 7)]) (rest := []) ⟨hx, hb, hml, hown, hts⟩ (c_X4_amount l  (ltS (us ((R 0))) 7)) (va_cwS 1 hts gX4_overshoot_X4_amount rfl rfl rfl (by decide +kernel) ⟨Nat.le_of_ble_eq_true rfl, Nat.le_of_ble_eq_true rfl⟩) ⟨pc_blind, (fun U hU hW => ⟨rfl, trivial⟩)⟩ rfl rfl hl.1 rfl (lv_room (Nat.le_of_ble_eq_true rfl)) dX4_overshoot_12 ⟨Nat.le_of_ble_eq_true rfl, Nat.le_of_ble_eq_true rfl⟩) hS hP (fun H locs hP hS => ?_)
  refine lv_istore_n (lv' := [(2, .int (abI (ltS (us ((R 0))) 7))), (1, .int (abI (gtS (us ((R 0))) 7))), (0, .ref (ad 0))]) hx hb dX4_overshoot_15 rfl hl (by decide) rfl (fun ls hl => ?_)
  refine lv_iload_n hx hb dX4_overshoot_16 rfl (lv_at hl 1 rfl) ?_
  refine lv_iload_n hx hb dX4_overshoot_17 rfl (lv_at hl 0 rfl) ?_
  refine lv_icmp_le (tgt := 25) hx hb dX4_overshoot_18 (by decide) (fun c_18 => ?_) (fun c_18 => ?_)
  · refine lv_iload_n hx hb dX4_overshoot_25 rfl (lv_at hl 0 rfl) ?_
    refine lv_aload_n hx hb dX4_overshoot_26 rfl (lv_at hl 2 rfl) ?_
    refine lv_iconst (v := 0) hx hb dX4_overshoot_27 (by decide) ?_
    refine cx_ri (va_runV (As := [.int 0]) (rest := [.int (abI (ltS (us ((R 0))) 7))]) ⟨hx, hb, hml, hown, hts⟩ (c_X4_used l D T ad I R 0 (by decide)) (cwV 1 hts gX4_overshoot_X4_used rfl rfl rfl (by decide +kernel) ⟨Nat.le_of_ble_eq_true rfl, Nat.le_of_ble_eq_true rfl⟩) ⟨MR.blind, va_recv hK hP (ci := 4) (q0 := 0) rfl mw_0, (MR.pre hP hK rfl)⟩ rfl rfl hl.1 rfl (lv_room (Nat.le_of_ble_eq_true rfl)) dX4_overshoot_28 ⟨Nat.le_of_ble_eq_true rfl, Nat.le_of_ble_eq_true rfl⟩) hS hP (fun H locs hP hS => ?_)
    refine cx_ri (va_runS (As := [.int (us ((R 0)) 0)]) (rest := [.int (abI (ltS (us ((R 0))) 7))]) ⟨hx, hb, hml, hown, hts⟩ (c_X4_amount l  (us ((R 0)) 0)) (va_cwS 1 hts gX4_overshoot_X4_amount rfl rfl rfl (by decide +kernel) ⟨Nat.le_of_ble_eq_true rfl, Nat.le_of_ble_eq_true rfl⟩) ⟨pc_blind, (fun U hU hW => ⟨rfl, trivial⟩)⟩ rfl rfl hl.1 rfl (lv_room (Nat.le_of_ble_eq_true rfl)) dX4_overshoot_31 ⟨Nat.le_of_ble_eq_true rfl, Nat.le_of_ble_eq_true rfl⟩) hS hP (fun H locs hP hS => ?_)
    refine lv_isub hx hb dX4_overshoot_34 ?_
    exact W.iret (v := ((abI (ltS (us ((R 0))) 7)) - (abI (us ((R 0)) 0)))) hx hb hr (fun t ht hW => ⟨⟨((abI (ltS (us ((R 0))) 7)) - (abI (us ((R 0)) 0))), (), rfl, (ov_a c_18), trivial⟩, hS.F ht⟩) hS.2.2 dX4_overshoot_35
  · refine lv_iload_n hx hb dX4_overshoot_21 rfl (lv_at hl 1 rfl) ?_
    refine lv_goto (tgt := 26) hx hb dX4_overshoot_22 (by decide) ?_
    refine lv_aload_n hx hb dX4_overshoot_26 rfl (lv_at hl 2 rfl) ?_
    refine lv_iconst (v := 0) hx hb dX4_overshoot_27 (by decide) ?_
    refine cx_ri (va_runV (As := [.int 0]) (rest := [.int (abI (gtS (us ((R 0))) 7))]) ⟨hx, hb, hml, hown, hts⟩ (c_X4_used l D T ad I R 0 (by decide)) (cwV 1 hts gX4_overshoot_X4_used rfl rfl rfl (by decide +kernel) ⟨Nat.le_of_ble_eq_true rfl, Nat.le_of_ble_eq_true rfl⟩) ⟨MR.blind, va_recv hK hP (ci := 4) (q0 := 0) rfl mw_0, (MR.pre hP hK rfl)⟩ rfl rfl hl.1 rfl (lv_room (Nat.le_of_ble_eq_true rfl)) dX4_overshoot_28 ⟨Nat.le_of_ble_eq_true rfl, Nat.le_of_ble_eq_true rfl⟩) hS hP (fun H locs hP hS => ?_)
    refine cx_ri (va_runS (As := [.int (us ((R 0)) 0)]) (rest := [.int (abI (gtS (us ((R 0))) 7))]) ⟨hx, hb, hml, hown, hts⟩ (c_X4_amount l  (us ((R 0)) 0)) (va_cwS 1 hts gX4_overshoot_X4_amount rfl rfl rfl (by decide +kernel) ⟨Nat.le_of_ble_eq_true rfl, Nat.le_of_ble_eq_true rfl⟩) ⟨pc_blind, (fun U hU hW => ⟨rfl, trivial⟩)⟩ rfl rfl hl.1 rfl (lv_room (Nat.le_of_ble_eq_true rfl)) dX4_overshoot_31 ⟨Nat.le_of_ble_eq_true rfl, Nat.le_of_ble_eq_true rfl⟩) hS hP (fun H locs hP hS => ?_)
    refine lv_isub hx hb dX4_overshoot_34 ?_
    exact W.iret (v := ((abI (gtS (us ((R 0))) 7)) - (abI (us ((R 0)) 0)))) hx hb hr (fun t ht hW => ⟨⟨((abI (gtS (us ((R 0))) 7)) - (abI (us ((R 0)) 0))), (), rfl, (ov_b c_18), trivial⟩, hS.F ht⟩) hS.2.2 dX4_overshoot_35
set_option maxHeartbeats 4000000 in
set_option maxRecDepth 100000 in
theorem c_X4_countNow (l : Launch) (D : va_G) (T : Nat → ClassId) (ad : Nat → Nat) (I : Nat → Int32) (R : Nat → Nat → Int32) (w : Nat) (hw : w < 9) : Met l yX4_countNow wsX4_countNow ({ frames := 5, cells := 0, slots := 0, locals := 112 }) (va_Pc [.ref (ad 0), .int (nI w)] (MR D T ad I R)) (RqI (cnM (R 0) (I 1) w)) 0 0 (fun _ => False) := by
  refine Met.ofW (cc := cX4_countNow) (maxL := 2) (ret := (some .int)) (by decide) rfl ?_
  intro p e s m args_ below meth c s₁ B hml hv
  obtain ⟨rfl, hP, hK⟩ := hv
  have hx := B.exec
  have hb := B.bytes
  have hr := B.returns
  have hts := atoms_spec (ws := wsX4_countNow) B.pre
  have hown : s.vm.findClass RX4 = some m.cls := findClass_of_methodNamed B.named
  have hlocks := B.notSynchronized
  have hinX4 : ∀ w ∈ u_ws RX4 TX4 12, w ∈ wsX4_countNow := by decide +kernel
  have hS : va_S (fun _ => False) s.heap s.heap [] := va_S.rf
  have hl := lv_entry ([.ref (ad 0), .int (nI w)]) (n := 2) (Nat.le_of_ble_eq_true rfl)
  rw [lg_entry_eq]
  generalize (lg_sl ([.ref (ad 0), .int (nI w)]) ++ List.replicate (2 - (lg_sl ([.ref (ad 0), .int (nI w)])).length) Slot.unset).toArray = ls at hl ⊢
  have hl : lv_has ls 2 [(0, .ref (ad 0)), (1, .int (nI w))] := hl
  refine lv_iload_n hx hb dX4_countNow_0 rfl (lv_at hl 1 rfl) ?_
  rcases (show w = 0 ∨ w = 1 ∨ w = 2 ∨ w = 3 ∨ w = 4 ∨ w = 5 ∨ w = 6 ∨ w = 7 ∨ w = 8 by omega) with rfl | rfl | rfl | rfl | rfl | rfl | rfl | rfl | rfl
  · refine lv_tableIn (tgt := 48) (off := 47) hx hb dX4_countNow_1 (by decide) (by decide) (by decide) (by decide) ?_
    refine lv_aload_n hx hb dX4_countNow_48 rfl (lv_at hl 0 rfl) ?_
    refine cx_ri (va_runV (As := []) (rest := []) ⟨hx, hb, hml, hown, hts⟩ (c_X4_turning l D T ad I R ) (cwV 0 hts gX4_countNow_X4_turning rfl rfl rfl (by decide +kernel) ⟨Nat.le_of_ble_eq_true rfl, Nat.le_of_ble_eq_true rfl⟩) ⟨MR.blind, va_recv hK hP (ci := 4) (q0 := 0) rfl mw_0, (MR.pre hP hK rfl)⟩ rfl rfl hl.1 rfl (lv_room (Nat.le_of_ble_eq_true rfl)) dX4_countNow_49 ⟨Nat.le_of_ble_eq_true rfl, Nat.le_of_ble_eq_true rfl⟩) hS hP (fun H locs hP hS => ?_)
    exact W.iret (v := (cnS ((R 0)) 8)) hx hb hr (fun t ht hW => ⟨⟨(cnS ((R 0)) 8), (), rfl, (cm0.symm), trivial⟩, hS.F ht⟩) hS.2.2 dX4_countNow_52
  · refine lv_tableIn (tgt := 53) (off := 52) hx hb dX4_countNow_1 (by decide) (by decide) (by decide) (by decide) ?_
    refine lv_aload_n hx hb dX4_countNow_53 rfl (lv_at hl 0 rfl) ?_
    refine cx_ri (va_runV (As := []) (rest := []) ⟨hx, hb, hml, hown, hts⟩ (c_X4_lost l D T ad I R ) (cwV 0 hts gX4_countNow_X4_lost rfl rfl rfl (by decide +kernel) ⟨Nat.le_of_ble_eq_true rfl, Nat.le_of_ble_eq_true rfl⟩) ⟨MR.blind, va_recv hK hP (ci := 4) (q0 := 0) rfl mw_0, (MR.pre hP hK rfl)⟩ rfl rfl hl.1 rfl (lv_room (Nat.le_of_ble_eq_true rfl)) dX4_countNow_54 ⟨Nat.le_of_ble_eq_true rfl, Nat.le_of_ble_eq_true rfl⟩) hS hP (fun H locs hP hS => ?_)
    exact W.iret (v := (loS ((R 0)) 8)) hx hb hr (fun t ht hW => ⟨⟨(loS ((R 0)) 8), (), rfl, (cm1.symm), trivial⟩, hS.F ht⟩) hS.2.2 dX4_countNow_57
  · refine lv_tableIn (tgt := 58) (off := 57) hx hb dX4_countNow_1 (by decide) (by decide) (by decide) (by decide) ?_
    refine lv_aload_n hx hb dX4_countNow_58 rfl (lv_at hl 0 rfl) ?_
    refine cx_ri (va_runV (As := []) (rest := []) ⟨hx, hb, hml, hown, hts⟩ (c_X4_greatestTrace l D T ad I R ) (cwV 0 hts gX4_countNow_X4_greatestTrace rfl rfl rfl (by decide +kernel) ⟨Nat.le_of_ble_eq_true rfl, Nat.le_of_ble_eq_true rfl⟩) ⟨MR.blind, va_recv hK hP (ci := 4) (q0 := 0) rfl mw_0, (MR.pre hP hK rfl)⟩ rfl rfl hl.1 rfl (lv_room (Nat.le_of_ble_eq_true rfl)) dX4_countNow_59 ⟨Nat.le_of_ble_eq_true rfl, Nat.le_of_ble_eq_true rfl⟩) hS hP (fun H locs hP hS => ?_)
    exact W.iret (v := (gtS (us ((R 0))) 7)) hx hb hr (fun t ht hW => ⟨⟨(gtS (us ((R 0))) 7), (), rfl, (cm2.symm), trivial⟩, hS.F ht⟩) hS.2.2 dX4_countNow_62
  · refine lv_tableIn (tgt := 63) (off := 62) hx hb dX4_countNow_1 (by decide) (by decide) (by decide) (by decide) ?_
    refine lv_aload_n hx hb dX4_countNow_63 rfl (lv_at hl 0 rfl) ?_
    refine cx_ri (va_runV (As := []) (rest := []) ⟨hx, hb, hml, hown, hts⟩ (c_X4_leastTrace l D T ad I R ) (cwV 0 hts gX4_countNow_X4_leastTrace rfl rfl rfl (by decide +kernel) ⟨Nat.le_of_ble_eq_true rfl, Nat.le_of_ble_eq_true rfl⟩) ⟨MR.blind, va_recv hK hP (ci := 4) (q0 := 0) rfl mw_0, (MR.pre hP hK rfl)⟩ rfl rfl hl.1 rfl (lv_room (Nat.le_of_ble_eq_true rfl)) dX4_countNow_64 ⟨Nat.le_of_ble_eq_true rfl, Nat.le_of_ble_eq_true rfl⟩) hS hP (fun H locs hP hS => ?_)
    exact W.iret (v := (ltS (us ((R 0))) 7)) hx hb hr (fun t ht hW => ⟨⟨(ltS (us ((R 0))) 7), (), rfl, (cm3.symm), trivial⟩, hS.F ht⟩) hS.2.2 dX4_countNow_67
  · refine lv_tableIn (tgt := 68) (off := 67) hx hb dX4_countNow_1 (by decide) (by decide) (by decide) (by decide) ?_
    refine lv_aload_n hx hb dX4_countNow_68 rfl (lv_at hl 0 rfl) ?_
    refine lv_iconst (v := 1) hx hb dX4_countNow_69 (by decide) ?_
    refine cx_ri (va_runV (As := [.int 1]) (rest := []) ⟨hx, hb, hml, hown, hts⟩ (c_X4_greatest l D T ad I R 1 (by decide)) (cwV 1 hts gX4_countNow_X4_greatest rfl rfl rfl (by decide +kernel) ⟨Nat.le_of_ble_eq_true rfl, Nat.le_of_ble_eq_true rfl⟩) ⟨MR.blind, va_recv hK hP (ci := 4) (q0 := 0) rfl mw_0, (MR.pre hP hK rfl)⟩ rfl rfl hl.1 rfl (lv_room (Nat.le_of_ble_eq_true rfl)) dX4_countNow_70 ⟨Nat.le_of_ble_eq_true rfl, Nat.le_of_ble_eq_true rfl⟩) hS hP (fun H locs hP hS => ?_)
    exact W.iret (v := (gaS (fun n => pnF (qz ((R 0))) (us ((R 0))) n 1) 8)) hx hb hr (fun t ht hW => ⟨⟨(gaS (fun n => pnF (qz ((R 0))) (us ((R 0))) n 1) 8), (), rfl, (cm4.symm), trivial⟩, hS.F ht⟩) hS.2.2 dX4_countNow_73
  · refine lv_tableIn (tgt := 74) (off := 73) hx hb dX4_countNow_1 (by decide) (by decide) (by decide) (by decide) ?_
    refine lv_aload_n hx hb dX4_countNow_74 rfl (lv_at hl 0 rfl) ?_
    refine lv_iconst (v := 2) hx hb dX4_countNow_75 (by decide) ?_
    refine cx_ri (va_runV (As := [.int 2]) (rest := []) ⟨hx, hb, hml, hown, hts⟩ (c_X4_greatest l D T ad I R 2 (by decide)) (cwV 1 hts gX4_countNow_X4_greatest rfl rfl rfl (by decide +kernel) ⟨Nat.le_of_ble_eq_true rfl, Nat.le_of_ble_eq_true rfl⟩) ⟨MR.blind, va_recv hK hP (ci := 4) (q0 := 0) rfl mw_0, (MR.pre hP hK rfl)⟩ rfl rfl hl.1 rfl (lv_room (Nat.le_of_ble_eq_true rfl)) dX4_countNow_76 ⟨Nat.le_of_ble_eq_true rfl, Nat.le_of_ble_eq_true rfl⟩) hS hP (fun H locs hP hS => ?_)
    exact W.iret (v := (gaS (fun n => pnF (qz ((R 0))) (us ((R 0))) n 2) 8)) hx hb hr (fun t ht hW => ⟨⟨(gaS (fun n => pnF (qz ((R 0))) (us ((R 0))) n 2) 8), (), rfl, (cm5.symm), trivial⟩, hS.F ht⟩) hS.2.2 dX4_countNow_79
  · refine lv_tableIn (tgt := 80) (off := 79) hx hb dX4_countNow_1 (by decide) (by decide) (by decide) (by decide) ?_
    refine lv_aload_n hx hb dX4_countNow_80 rfl (lv_at hl 0 rfl) ?_
    refine cx_ri (va_runV (As := []) (rest := []) ⟨hx, hb, hml, hown, hts⟩ (c_X4_overshoot l D T ad I R ) (cwV 0 hts gX4_countNow_X4_overshoot rfl rfl rfl (by decide +kernel) ⟨Nat.le_of_ble_eq_true rfl, Nat.le_of_ble_eq_true rfl⟩) ⟨MR.blind, va_recv hK hP (ci := 4) (q0 := 0) rfl mw_0, (MR.pre hP hK rfl)⟩ rfl rfl hl.1 rfl (lv_room (Nat.le_of_ble_eq_true rfl)) dX4_countNow_81 ⟨Nat.le_of_ble_eq_true rfl, Nat.le_of_ble_eq_true rfl⟩) hS hP (fun H locs hP hS => ?_)
    exact W.iret (v := (ovM (us ((R 0))))) hx hb hr (fun t ht hW => ⟨⟨(ovM (us ((R 0)))), (), rfl, (cm6.symm), trivial⟩, hS.F ht⟩) hS.2.2 dX4_countNow_84
  · refine lv_tableIn (tgt := 85) (off := 84) hx hb dX4_countNow_1 (by decide) (by decide) (by decide) (by decide) ?_
    refine lv_aload_n hx hb dX4_countNow_85 rfl (lv_at hl 0 rfl) ?_
    refine va_get (D := D) (ci := 4) (v := .ref (ad 1)) (C := RX4) (T := TX4) (N := 12) hx hb hts hinX4 hown hK hP 0 mw_0 rfl 1 (by decide) (hts (.fieldLink RX4 7 "SquareGearsModel" "z" "[I") (by decide +kernel)) (fun _ h9 => h9) rfl dX4_countNow_86 ?_
    refine lv_bipush (v := 24) hx hb dX4_countNow_89 (by decide) ?_
    refine cx_iald (k := 24) hx hb hK hP 1 1 mw_1 rfl (by decide) (by decide) dX4_countNow_91 ?_
    exact W.iret (v := ((R 0) 24)) hx hb hr (fun t ht hW => ⟨⟨((R 0) 24), (), rfl, (cm7.symm), trivial⟩, hS.F ht⟩) hS.2.2 dX4_countNow_92
  · refine lv_tableOut (tgt := 93) hx hb dX4_countNow_1 (Or.inr (by decide)) (by decide) ?_
    refine lv_aload_n hx hb dX4_countNow_93 rfl (lv_at hl 0 rfl) ?_
    refine va_get (D := D) (ci := 4) (v := .int (I 1)) (C := RX4) (T := TX4) (N := 12) hx hb hts hinX4 hown hK hP 0 mw_0 rfl 3 (by decide) (hts (.fieldLink RX4 48 "SquareGearsModel" "saves" "I") (by decide +kernel)) (fun _ h9 => h9) rfl dX4_countNow_94 ?_
    exact W.iret (v := (I 1)) hx hb hr (fun t ht hW => ⟨⟨(I 1), (), rfl, (cm8.symm), trivial⟩, hS.F ht⟩) hS.2.2 dX4_countNow_97
set_option maxHeartbeats 4000000 in
set_option maxRecDepth 100000 in
theorem c_X4_explaining (l : Launch) (D : va_G) (T : Nat → ClassId) (ad : Nat → Nat) (I : Nat → Int32) (R : Nat → Nat → Int32) : Met l yX4_explaining wsX4_explaining ({ frames := 3, cells := 0, slots := 0, locals := 66 }) (va_Pc [.ref (ad 0)] (MR D T ad I R)) (RqI (flF (diF (qz (R 0)) (us (R 0))))) 0 0 (fun _ => False) := by
  refine Met.ofW (cc := cX4_explaining) (maxL := 5) (ret := (some .int)) (by decide) rfl ?_
  intro p e s m args_ below meth c s₁ B hml hv
  obtain ⟨rfl, hP, hK⟩ := hv
  have hx := B.exec
  have hb := B.bytes
  have hr := B.returns
  have hts := atoms_spec (ws := wsX4_explaining) B.pre
  have hown : s.vm.findClass RX4 = some m.cls := findClass_of_methodNamed B.named
  have hlocks := B.notSynchronized
  have hS : va_S (fun _ => False) s.heap s.heap [] := va_S.rf
  have hl := lv_entry ([.ref (ad 0)]) (n := 5) (Nat.le_of_ble_eq_true rfl)
  rw [lg_entry_eq]
  generalize (lg_sl ([.ref (ad 0)]) ++ List.replicate (5 - (lg_sl ([.ref (ad 0)])).length) Slot.unset).toArray = ls at hl ⊢
  have hl : lv_has ls 5 [(0, .ref (ad 0))] := hl
  refine lv_aload_n hx hb dX4_explaining_0 rfl (lv_at hl 0 rfl) ?_
  refine lv_iconst (v := 0) hx hb dX4_explaining_1 (by decide) ?_
  refine cx_ri (va_runV (As := [.int 0]) (rest := []) ⟨hx, hb, hml, hown, hts⟩ (c_X4_difference l D T ad I R 0 (by decide)) (cwV 1 hts gX4_explaining_X4_difference rfl rfl rfl (by decide +kernel) ⟨Nat.le_of_ble_eq_true rfl, Nat.le_of_ble_eq_true rfl⟩) ⟨MR.blind, va_recv hK hP (ci := 4) (q0 := 0) rfl mw_0, (MR.pre hP hK rfl)⟩ rfl rfl hl.1 rfl (lv_room (Nat.le_of_ble_eq_true rfl)) dX4_explaining_2 ⟨Nat.le_of_ble_eq_true rfl, Nat.le_of_ble_eq_true rfl⟩) hS hP (fun H locs hP hS => ?_)
  refine lv_istore_n (lv' := [(1, .int (diF (qz ((R 0))) (us ((R 0))) 0)), (0, .ref (ad 0))]) hx hb dX4_explaining_5 rfl hl (by decide) rfl (fun ls hl => ?_)
  refine lv_iconst (v := 0) hx hb dX4_explaining_6 (by decide) ?_
  refine lv_istore_n (lv' := [(2, .int 0), (1, .int (diF (qz ((R 0))) (us ((R 0))) 0)), (0, .ref (ad 0))]) hx hb dX4_explaining_7 rfl hl (by decide) rfl (fun ls hl => ?_)
  suffices ih_8 : ∀ (fu : Nat) (k : Nat) (H : Heap) (locs : List Loc) (ls : Array Slot), 8 - k < fu → (k ≤ 8) → (¬ (diF (qz (R 0)) (us (R 0)) 0) = 0 → flF (diF (qz (R 0)) (us (R 0))) = flS (fun k => idS (diF (qz (R 0)) (us (R 0))) (diF (qz (R 0)) (us (R 0)) 0) k 8) (8 - k) k) → va_P D vwCl (mw T ad I R) H →  va_S (fun _ => False) s.heap H locs → lv_has ls 5 [(0, .ref (ad 0)), (1, .int (diF (qz (R 0)) (us (R 0)) 0)), (2, .int (nI k))] → W p l e (headSpec wsX4_explaining ({ frames := 3, cells := 0, slots := 0, locals := 66 })).room s m ([.ref (ad 0)] : List Value).toArray below meth c H locs 0 0 (MQ below (RqI (flF (diF (qz (R 0)) (us (R 0))))) ([.ref (ad 0)] : List Value).toArray s 0 0 (fun _ => False)) (F0 m 8 ls []) from
    ih_8 _ 0 _ _ _ (Nat.lt_succ_self _) (by omega) (fun h => if_neg h) hP hS (lv_sub hl [2, 1, 0] rfl)
  intro fu
  induction fu with
  | zero => intro k H locs ls hfu; exact absurd hfu (Nat.not_lt_zero _)
  | succ fu ih_8 =>
    intro k H locs ls hfu hk8 hq hP hS hl
    refine lv_iload_n hx hb dX4_explaining_8 rfl (lv_at hl 2 rfl) ?_
    refine lv_bipush (v := 8) hx hb dX4_explaining_9 (by decide) ?_
    refine lv_icmp_ge (tgt := 75) hx hb dX4_explaining_11 (by decide) (fun c_11 => ?_) (fun c_11 => ?_)
    · have c_11 : 8 ≤ k := (nI_leI (a := 8) (b := k) (by omega) (by omega)).mp c_11
      refine lv_iconst (v := (-1)) hx hb dX4_explaining_75 (by decide) ?_
      exact W.iret (v := (-1)) hx hb hr (fun t ht hW => ⟨⟨(-1), (), rfl, (by first | exact (if_pos c_15).symm | (by_cases h0 : (diF (qz (R 0)) (us (R 0)) 0) = 0; exact (if_pos h0).symm; exact fl_end (by omega) (hq h0))), trivial⟩, hS.F ht⟩) hS.2.2 dX4_explaining_76
    · have c_11 : ¬ (8 ≤ k) := fun h => c_11 ((nI_leI (a := 8) (b := k) (by omega) (by omega)).mpr h)
      refine lv_iload_n hx hb dX4_explaining_14 rfl (lv_at hl 1 rfl) ?_
      refine lv_if_eq (tgt := 75) hx hb dX4_explaining_15 (by decide) (fun c_15 => ?_) (fun c_15 => ?_)
      · refine lv_iconst (v := (-1)) hx hb dX4_explaining_75 (by decide) ?_
        exact W.iret (v := (-1)) hx hb hr (fun t ht hW => ⟨⟨(-1), (), rfl, (by first | exact (if_pos c_15).symm | (by_cases h0 : (diF (qz (R 0)) (us (R 0)) 0) = 0; exact (if_pos h0).symm; exact fl_end (by omega) (hq h0))), trivial⟩, hS.F ht⟩) hS.2.2 dX4_explaining_76
      · refine lv_iconst (v := 1) hx hb dX4_explaining_18 (by decide) ?_
        refine lv_istore_n (lv' := [(3, .int (nI 1)), (0, .ref (ad 0)), (1, .int (diF (qz (R 0)) (us (R 0)) 0)), (2, .int (nI k))]) hx hb dX4_explaining_19 rfl hl (by decide) rfl (fun ls hl => ?_)
        refine lv_iconst (v := 1) hx hb dX4_explaining_20 (by decide) ?_
        refine lv_istore (lv' := [(4, .int 1), (3, .int (nI 1)), (0, .ref (ad 0)), (1, .int (diF (qz (R 0)) (us (R 0)) 0)), (2, .int (nI k))]) hx hb dX4_explaining_21 hl (by decide) rfl (fun ls hl => ?_)
        suffices ih_23 : ∀ (fu : Nat) (n : Nat) (b : Nat) (H : Heap) (locs : List Loc) (ls : Array Slot), 8 - n < fu → (n ≤ 8) → (b ≤ 1) → (nI b = idS (diF (qz (R 0)) (us (R 0))) (diF (qz (R 0)) (us (R 0)) 0) k n) → va_P D vwCl (mw T ad I R) H →  va_S (fun _ => False) s.heap H locs → lv_has ls 5 [(0, .ref (ad 0)), (1, .int (diF (qz (R 0)) (us (R 0)) 0)), (2, .int (nI k)), (3, .int (nI b)), (4, .int (nI n))] → W p l e (headSpec wsX4_explaining ({ frames := 3, cells := 0, slots := 0, locals := 66 })).room s m ([.ref (ad 0)] : List Value).toArray below meth c H locs 0 0 (MQ below (RqI (flF (diF (qz (R 0)) (us (R 0))))) ([.ref (ad 0)] : List Value).toArray s 0 0 (fun _ => False)) (F0 m 23 ls []) from
          ih_23 _ 1 1 _ _ _ (Nat.lt_succ_self _) (by omega) (by omega) ((id_1 (by omega)).symm) hP hS (lv_sub hl [2, 3, 4, 1, 0] rfl)
        intro fu
        induction fu with
        | zero => intro n b H locs ls hfu; exact absurd hfu (Nat.not_lt_zero _)
        | succ fu ih_23 =>
          intro n b H locs ls hfu hn8 hb1 hbi hP hS hl
          refine lv_iload hx hb dX4_explaining_23 (lv_at hl 4 rfl) ?_
          refine lv_bipush (v := 8) hx hb dX4_explaining_25 (by decide) ?_
          refine lv_icmp_ge (tgt := 63) hx hb dX4_explaining_27 (by decide) (fun c_27 => ?_) (fun c_27 => ?_)
          · have c_27 : 8 ≤ n := (nI_leI (a := 8) (b := n) (by omega) (by omega)).mp c_27
            obtain rfl : n = 8 := by omega
            refine lv_iload_n hx hb dX4_explaining_63 rfl (lv_at hl 3 rfl) ?_
            refine lv_if_eq (tgt := 69) hx hb dX4_explaining_64 (by decide) (fun c_64 => ?_) (fun c_64 => ?_)
            · have c_64 : b = 0 := (nI_eq (a := b) (b := 0) (by omega) (by omega)).mp c_64
              refine lv_iinc (k := 2) (v := (nI (k + 1))) (lv' := [(2, .int (nI (k + 1))), (0, .ref (ad 0)), (1, .int (diF (qz (R 0)) (us (R 0)) 0)), (3, .int (nI b)), (4, .int (nI 8))]) hx hb dX4_explaining_69 hl rfl (nI_add k 1) (by decide) rfl (fun ls hl => ?_)
              refine lv_goto (tgt := 8) hx hb dX4_explaining_72 (by decide) ?_
              exact ih_8 (k + 1) _ _ _ (by omega) (by omega) (fun h => (hq h).trans (fl_miss (by omega) (by show idS _ _ _ _ = 0; rw [← hbi, c_64]; rfl))) hP hS (lv_sub hl [1, 2, 0] rfl)
            · have c_64 : ¬ (b = 0) := fun h => c_64 ((nI_eq (a := b) (b := 0) (by omega) (by omega)).mpr h)
              refine lv_iload_n hx hb dX4_explaining_67 rfl (lv_at hl 2 rfl) ?_
              exact W.iret (v := (nI k)) hx hb hr (fun t ht hW => ⟨⟨(nI k), (), rfl, ((fl_hit (P := (fun k => idS (diF (qz (R 0)) (us (R 0))) (diF (qz (R 0)) (us (R 0)) 0) k 8)) (by omega) (by show ¬ idS _ _ _ _ = 0; rw [← hbi]; exact fun h => c_64 ((nI_eq (a := b) (b := 0) (by omega) (by omega)).mp h))).trans (hq c_15).symm), trivial⟩, hS.F ht⟩) hS.2.2 dX4_explaining_68
          · have c_27 : ¬ (8 ≤ n) := fun h => c_27 ((nI_leI (a := 8) (b := n) (by omega) (by omega)).mpr h)
            refine lv_iload_n hx hb dX4_explaining_30 rfl (lv_at hl 3 rfl) ?_
            refine lv_if_eq (tgt := 55) hx hb dX4_explaining_31 (by decide) (fun c_31 => ?_) (fun c_31 => ?_)
            · have c_31 : b = 0 := (nI_eq (a := b) (b := 0) (by omega) (by omega)).mp c_31
              obtain rfl : b = 0 := c_31
              refine lv_iconst (v := 0) hx hb dX4_explaining_55 (by decide) ?_
              refine lv_istore_n (lv' := [(3, .int (nI 0)), (0, .ref (ad 0)), (1, .int (diF (qz (R 0)) (us (R 0)) 0)), (2, .int (nI k)), (4, .int (nI n))]) hx hb dX4_explaining_56 rfl hl (by decide) rfl (fun ls hl => ?_)
              refine lv_iinc (k := 4) (v := (nI (n + 1))) (lv' := [(4, .int (nI (n + 1))), (3, .int (nI 0)), (0, .ref (ad 0)), (1, .int (diF (qz (R 0)) (us (R 0)) 0)), (2, .int (nI k))]) hx hb dX4_explaining_57 hl rfl (nI_add n 1) (by decide) rfl (fun ls hl => ?_)
              refine lv_goto (tgt := 23) hx hb dX4_explaining_60 (by decide) ?_
              exact ih_23 (n + 1) 0 _ _ _ (by omega) (by omega) (by omega) (by first | exact idm_0 hbi | exact idm_f c_48 | exact idm_t hbi hb1 c_31 c_48) hP hS (lv_sub hl [2, 3, 4, 1, 0] rfl)
            · have c_31 : ¬ (b = 0) := fun h => c_31 ((nI_eq (a := b) (b := 0) (by omega) (by omega)).mpr h)
              refine lv_aload_n hx hb dX4_explaining_34 rfl (lv_at hl 0 rfl) ?_
              refine lv_iload hx hb dX4_explaining_35 (lv_at hl 4 rfl) ?_
              refine cx_ri (va_runV (As := [.int (nI n)]) (rest := []) ⟨hx, hb, hml, hown, hts⟩ (c_X4_difference l D T ad I R n (by omega)) (cwV 1 hts gX4_explaining_X4_difference rfl rfl rfl (by decide +kernel) ⟨Nat.le_of_ble_eq_true rfl, Nat.le_of_ble_eq_true rfl⟩) ⟨MR.blind, va_recv hK hP (ci := 4) (q0 := 0) rfl mw_0, (MR.pre hP hK rfl)⟩ rfl rfl hl.1 rfl (lv_room (Nat.le_of_ble_eq_true rfl)) dX4_explaining_37 ⟨Nat.le_of_ble_eq_true rfl, Nat.le_of_ble_eq_true rfl⟩) hS hP (fun H locs hP hS => ?_)
              refine lv_iload_n hx hb dX4_explaining_40 rfl (lv_at hl 1 rfl) ?_
              refine lv_iload_n hx hb dX4_explaining_41 rfl (lv_at hl 2 rfl) ?_
              refine lv_iload hx hb dX4_explaining_42 (lv_at hl 4 rfl) ?_
              refine cx_ri (va_runS (As := [.int (nI k), .int (nI n)]) (rest := [.int (diF (qz (R 0)) (us (R 0)) 0), .int (diF (qz ((R 0))) (us ((R 0))) n)]) ⟨hx, hb, hml, hown, hts⟩ (c_X4_wave l  k n (by omega) (by omega)) (va_cwS 2 hts gX4_explaining_X4_wave rfl rfl rfl (by decide +kernel) ⟨Nat.le_of_ble_eq_true rfl, Nat.le_of_ble_eq_true rfl⟩) ⟨pc_blind, (fun U hU hW => ⟨rfl, trivial⟩)⟩ rfl rfl hl.1 rfl (lv_room (Nat.le_of_ble_eq_true rfl)) dX4_explaining_44 ⟨Nat.le_of_ble_eq_true rfl, Nat.le_of_ble_eq_true rfl⟩) hS hP (fun H locs hP hS => ?_)
              refine lv_imul hx hb dX4_explaining_47 ?_
              refine lv_icmp_ne (tgt := 55) hx hb dX4_explaining_48 (by decide) (fun c_48 => ?_) (fun c_48 => ?_)
              · refine lv_iconst (v := 0) hx hb dX4_explaining_55 (by decide) ?_
                refine lv_istore_n (lv' := [(3, .int (nI 0)), (0, .ref (ad 0)), (1, .int (diF (qz (R 0)) (us (R 0)) 0)), (2, .int (nI k)), (4, .int (nI n))]) hx hb dX4_explaining_56 rfl hl (by decide) rfl (fun ls hl => ?_)
                refine lv_iinc (k := 4) (v := (nI (n + 1))) (lv' := [(4, .int (nI (n + 1))), (3, .int (nI 0)), (0, .ref (ad 0)), (1, .int (diF (qz (R 0)) (us (R 0)) 0)), (2, .int (nI k))]) hx hb dX4_explaining_57 hl rfl (nI_add n 1) (by decide) rfl (fun ls hl => ?_)
                refine lv_goto (tgt := 23) hx hb dX4_explaining_60 (by decide) ?_
                exact ih_23 (n + 1) 0 _ _ _ (by omega) (by omega) (by omega) (by first | exact idm_0 hbi | exact idm_f c_48 | exact idm_t hbi hb1 c_31 c_48) hP hS (lv_sub hl [2, 3, 4, 1, 0] rfl)
              · refine lv_iconst (v := 1) hx hb dX4_explaining_51 (by decide) ?_
                refine lv_goto (tgt := 56) hx hb dX4_explaining_52 (by decide) ?_
                refine lv_istore_n (lv' := [(3, .int (nI 1)), (0, .ref (ad 0)), (1, .int (diF (qz (R 0)) (us (R 0)) 0)), (2, .int (nI k)), (4, .int (nI n))]) hx hb dX4_explaining_56 rfl hl (by decide) rfl (fun ls hl => ?_)
                refine lv_iinc (k := 4) (v := (nI (n + 1))) (lv' := [(4, .int (nI (n + 1))), (3, .int (nI 1)), (0, .ref (ad 0)), (1, .int (diF (qz (R 0)) (us (R 0)) 0)), (2, .int (nI k))]) hx hb dX4_explaining_57 hl rfl (nI_add n 1) (by decide) rfl (fun ls hl => ?_)
                refine lv_goto (tgt := 23) hx hb dX4_explaining_60 (by decide) ?_
                exact ih_23 (n + 1) 1 _ _ _ (by omega) (by omega) (by omega) (by first | exact idm_0 hbi | exact idm_f c_48 | exact idm_t hbi hb1 c_31 c_48) hP hS (lv_sub hl [2, 3, 4, 1, 0] rfl)
set_option maxHeartbeats 4000000 in
set_option maxRecDepth 100000 in
theorem c_X4_far (l : Launch) (D : va_G) (T : Nat → ClassId) (ad : Nat → Nat) (I : Nat → Int32) (R : Nat → Nat → Int32) (b : Nat) (hb8 : b < 8) : Met l yX4_far wsX4_far ({ frames := 2, cells := 0, slots := 0, locals := 45 }) (va_Pc [.ref (ad 0), .int (nI b)] (MR D T ad I R)) (RqI (dtS (qz (R 0)) (us (R 0)) b 8)) 0 0 (fun _ => False) := by
  refine Met.ofW (cc := cX4_far) (maxL := 4) (ret := (some .int)) (by decide) rfl ?_
  intro p e s m args_ below meth c s₁ B hml hv
  obtain ⟨rfl, hP, hK⟩ := hv
  have hx := B.exec
  have hb := B.bytes
  have hr := B.returns
  have hts := atoms_spec (ws := wsX4_far) B.pre
  have hown : s.vm.findClass RX4 = some m.cls := findClass_of_methodNamed B.named
  have hlocks := B.notSynchronized
  have hinX4 : ∀ w ∈ u_ws RX4 TX4 12, w ∈ wsX4_far := by decide +kernel
  have hS : va_S (fun _ => False) s.heap s.heap [] := va_S.rf
  have hl := lv_entry ([.ref (ad 0), .int (nI b)]) (n := 4) (Nat.le_of_ble_eq_true rfl)
  rw [lg_entry_eq]
  generalize (lg_sl ([.ref (ad 0), .int (nI b)]) ++ List.replicate (4 - (lg_sl ([.ref (ad 0), .int (nI b)])).length) Slot.unset).toArray = ls at hl ⊢
  have hl : lv_has ls 4 [(0, .ref (ad 0)), (1, .int (nI b))] := hl
  refine lv_iconst (v := 0) hx hb dX4_far_0 (by decide) ?_
  refine lv_istore_n (lv' := [(2, .int 0), (0, .ref (ad 0)), (1, .int (nI b))]) hx hb dX4_far_1 rfl hl (by decide) rfl (fun ls hl => ?_)
  refine lv_iconst (v := 0) hx hb dX4_far_2 (by decide) ?_
  refine lv_istore_n (lv' := [(3, .int 0), (2, .int 0), (0, .ref (ad 0)), (1, .int (nI b))]) hx hb dX4_far_3 rfl hl (by decide) rfl (fun ls hl => ?_)
  suffices ih_4 : ∀ (fu : Nat) (i : Nat) (H : Heap) (locs : List Loc) (ls : Array Slot), 8 - i < fu → (i ≤ 8) → va_P D vwCl (mw T ad I R) H →  va_S (fun _ => False) s.heap H locs → lv_has ls 4 [(0, .ref (ad 0)), (1, .int (nI b)), (2, .int (dtS (qz (R 0)) (us (R 0)) b i)), (3, .int (nI i))] → W p l e (headSpec wsX4_far ({ frames := 2, cells := 0, slots := 0, locals := 45 })).room s m ([.ref (ad 0), .int (nI b)] : List Value).toArray below meth c H locs 0 0 (MQ below (RqI (dtS (qz (R 0)) (us (R 0)) b 8)) ([.ref (ad 0), .int (nI b)] : List Value).toArray s 0 0 (fun _ => False)) (F0 m 4 ls []) from
    ih_4 _ 0 _ _ _ (Nat.lt_succ_self _) (by omega) hP hS (lv_sub hl [2, 3, 1, 0] rfl)
  intro fu
  induction fu with
  | zero => intro i H locs ls hfu; exact absurd hfu (Nat.not_lt_zero _)
  | succ fu ih_4 =>
    intro i H locs ls hfu hi hP hS hl
    refine lv_iload_n hx hb dX4_far_4 rfl (lv_at hl 3 rfl) ?_
    refine lv_bipush (v := 8) hx hb dX4_far_5 (by decide) ?_
    refine lv_icmp_ge (tgt := 39) hx hb dX4_far_7 (by decide) (fun c_7 => ?_) (fun c_7 => ?_)
    · have c_7 : 8 ≤ i := (nI_leI (a := 8) (b := i) (by omega) (by omega)).mp c_7
      obtain rfl : i = 8 := by omega
      refine lv_iload_n hx hb dX4_far_39 rfl (lv_at hl 2 rfl) ?_
      exact W.iret (v := (dtS (qz (R 0)) (us (R 0)) b 8)) hx hb hr (fun t ht hW => ⟨⟨(dtS (qz (R 0)) (us (R 0)) b 8), (), rfl, (rfl), trivial⟩, hS.F ht⟩) hS.2.2 dX4_far_40
    · have c_7 : ¬ (8 ≤ i) := fun h => c_7 ((nI_leI (a := 8) (b := i) (by omega) (by omega)).mpr h)
      refine lv_iload_n hx hb dX4_far_10 rfl (lv_at hl 2 rfl) ?_
      refine lv_aload_n hx hb dX4_far_11 rfl (lv_at hl 0 rfl) ?_
      refine va_get (D := D) (ci := 4) (v := .ref (ad 1)) (C := RX4) (T := TX4) (N := 12) hx hb hts hinX4 hown hK hP 0 mw_0 rfl 1 (by decide) (hts (.fieldLink RX4 7 "SquareGearsModel" "z" "[I") (by decide +kernel)) (fun _ h9 => h9) rfl dX4_far_12 ?_
      refine lv_bipush (v := 16) hx hb dX4_far_15 (by decide) ?_
      refine lv_iload_n hx hb dX4_far_17 rfl (lv_at hl 3 rfl) ?_
      refine lv_iadd hx hb dX4_far_18 ?_
      refine cx_top (nI_add 16 i) ?_
      refine cx_iald (k := (16 + i)) hx hb hK hP 1 1 mw_1 rfl (by omega) (by decide) dX4_far_19 ?_
      refine lv_aload_n hx hb dX4_far_20 rfl (lv_at hl 0 rfl) ?_
      refine lv_iload_n hx hb dX4_far_21 rfl (lv_at hl 3 rfl) ?_
      refine lv_iload_n hx hb dX4_far_22 rfl (lv_at hl 1 rfl) ?_
      refine lv_ixor hx hb dX4_far_23 ?_
      refine cx_top (show ((nI i) ^^^ (nI b)) = (nI (i ^^^ b)) from nI_xor (by omega) hb8) ?_
      refine cx_ri (va_runV (As := [.int (nI (i ^^^ b))]) (rest := [.int ((R 0) (16 + i)), .int (dtS (qz (R 0)) (us (R 0)) b i)]) ⟨hx, hb, hml, hown, hts⟩ (c_X4_traceAt l D T ad I R (i ^^^ b) (xor_lt (by omega) hb8)) (cwV 1 hts gX4_far_X4_traceAt rfl rfl rfl (by decide +kernel) ⟨Nat.le_of_ble_eq_true rfl, Nat.le_of_ble_eq_true rfl⟩) ⟨MR.blind, va_recv hK hP (ci := 4) (q0 := 0) rfl mw_0, (MR.pre hP hK rfl)⟩ rfl rfl hl.1 rfl (lv_room (Nat.le_of_ble_eq_true rfl)) dX4_far_24 ⟨Nat.le_of_ble_eq_true rfl, Nat.le_of_ble_eq_true rfl⟩) hS hP (fun H locs hP hS => ?_)
      refine lv_isub hx hb dX4_far_27 ?_
      refine cx_ri (va_runS (As := [.int (((R 0) (16 + i)) - (trS (us ((R 0))) (i ^^^ b) 8))]) (rest := [.int (dtS (qz (R 0)) (us (R 0)) b i)]) ⟨hx, hb, hml, hown, hts⟩ (c_X4_amount l  (((R 0) (16 + i)) - (trS (us ((R 0))) (i ^^^ b) 8))) (va_cwS 1 hts gX4_far_X4_amount rfl rfl rfl (by decide +kernel) ⟨Nat.le_of_ble_eq_true rfl, Nat.le_of_ble_eq_true rfl⟩) ⟨pc_blind, (fun U hU hW => ⟨rfl, trivial⟩)⟩ rfl rfl hl.1 rfl (lv_room (Nat.le_of_ble_eq_true rfl)) dX4_far_28 ⟨Nat.le_of_ble_eq_true rfl, Nat.le_of_ble_eq_true rfl⟩) hS hP (fun H locs hP hS => ?_)
      refine lv_iadd hx hb dX4_far_31 ?_
      refine lv_istore_n (lv' := [(2, .int ((dtS (qz (R 0)) (us (R 0)) b i) + (abI (((R 0) (16 + i)) - (trS (us ((R 0))) (i ^^^ b) 8))))), (0, .ref (ad 0)), (1, .int (nI b)), (3, .int (nI i))]) hx hb dX4_far_32 rfl hl (by decide) rfl (fun ls hl => ?_)
      refine lv_iinc (k := 3) (v := (nI (i + 1))) (lv' := [(3, .int (nI (i + 1))), (2, .int ((dtS (qz (R 0)) (us (R 0)) b i) + (abI (((R 0) (16 + i)) - (trS (us ((R 0))) (i ^^^ b) 8))))), (0, .ref (ad 0)), (1, .int (nI b))]) hx hb dX4_far_33 hl rfl (nI_add i 1) (by decide) rfl (fun ls hl => ?_)
      refine lv_goto (tgt := 4) hx hb dX4_far_36 (by decide) ?_
      exact ih_4 (i + 1) _ _ _ (by omega) (by omega) hP hS (lv_sub hl [2, 3, 1, 0] rfl)
set_option maxHeartbeats 4000000 in
set_option maxRecDepth 100000 in
theorem c_X4_nearestTurn (l : Launch) (D : va_G) (T : Nat → ClassId) (ad : Nat → Nat) (I : Nat → Int32) (R : Nat → Nat → Int32) : Met l yX4_nearestTurn wsX4_nearestTurn ({ frames := 3, cells := 0, slots := 0, locals := 68 }) (va_Pc [.ref (ad 0)] (MR D T ad I R)) (RqI (nI (btS (fun b => dtS (qz (R 0)) (us (R 0)) b 8) 7))) 0 0 (fun _ => False) := by
  refine Met.ofW (cc := cX4_nearestTurn) (maxL := 3) (ret := (some .int)) (by decide) rfl ?_
  intro p e s m args_ below meth c s₁ B hml hv
  obtain ⟨rfl, hP, hK⟩ := hv
  have hx := B.exec
  have hb := B.bytes
  have hr := B.returns
  have hts := atoms_spec (ws := wsX4_nearestTurn) B.pre
  have hown : s.vm.findClass RX4 = some m.cls := findClass_of_methodNamed B.named
  have hlocks := B.notSynchronized
  have hS : va_S (fun _ => False) s.heap s.heap [] := va_S.rf
  have hl := lv_entry ([.ref (ad 0)]) (n := 3) (Nat.le_of_ble_eq_true rfl)
  rw [lg_entry_eq]
  generalize (lg_sl ([.ref (ad 0)]) ++ List.replicate (3 - (lg_sl ([.ref (ad 0)])).length) Slot.unset).toArray = ls at hl ⊢
  have hl : lv_has ls 3 [(0, .ref (ad 0))] := hl
  refine lv_iconst (v := 0) hx hb dX4_nearestTurn_0 (by decide) ?_
  refine lv_istore_n (lv' := [(1, .int (nI 0)), (0, .ref (ad 0))]) hx hb dX4_nearestTurn_1 rfl hl (by decide) rfl (fun ls hl => ?_)
  refine lv_iconst (v := 1) hx hb dX4_nearestTurn_2 (by decide) ?_
  refine lv_istore_n (lv' := [(2, .int 1), (1, .int (nI 0)), (0, .ref (ad 0))]) hx hb dX4_nearestTurn_3 rfl hl (by decide) rfl (fun ls hl => ?_)
  suffices ih_4 : ∀ (fu : Nat) (j : Nat) (b : Nat) (H : Heap) (locs : List Loc) (ls : Array Slot), 7 - j < fu → (j ≤ 7) → (b = btS (fun b => dtS (qz (R 0)) (us (R 0)) b 8) j) → va_P D vwCl (mw T ad I R) H →  va_S (fun _ => False) s.heap H locs → lv_has ls 3 [(0, .ref (ad 0)), (1, .int (nI b)), (2, .int (nI (j + 1)))] → W p l e (headSpec wsX4_nearestTurn ({ frames := 3, cells := 0, slots := 0, locals := 68 })).room s m ([.ref (ad 0)] : List Value).toArray below meth c H locs 0 0 (MQ below (RqI (nI (btS (fun b => dtS (qz (R 0)) (us (R 0)) b 8) 7))) ([.ref (ad 0)] : List Value).toArray s 0 0 (fun _ => False)) (F0 m 4 ls []) from
    ih_4 _ 0 0 _ _ _ (Nat.lt_succ_self _) (by omega) (rfl) hP hS (lv_sub hl [2, 1, 0] rfl)
  intro fu
  induction fu with
  | zero => intro j b H locs ls hfu; exact absurd hfu (Nat.not_lt_zero _)
  | succ fu ih_4 =>
    intro j b H locs ls hfu hj hbj hP hS hl
    refine lv_iload_n hx hb dX4_nearestTurn_4 rfl (lv_at hl 2 rfl) ?_
    refine lv_bipush (v := 8) hx hb dX4_nearestTurn_5 (by decide) ?_
    refine lv_icmp_ge (tgt := 35) hx hb dX4_nearestTurn_7 (by decide) (fun c_7 => ?_) (fun c_7 => ?_)
    · have c_7 : 8 ≤ (j + 1) := (nI_leI (a := 8) (b := (j + 1)) (by omega) (by omega)).mp c_7
      obtain rfl : j = 7 := by omega
      refine lv_iload_n hx hb dX4_nearestTurn_35 rfl (lv_at hl 1 rfl) ?_
      exact W.iret (v := (nI b)) hx hb hr (fun t ht hW => ⟨⟨(nI b), (), rfl, (by rw [hbj]), trivial⟩, hS.F ht⟩) hS.2.2 dX4_nearestTurn_36
    · have c_7 : ¬ (8 ≤ (j + 1)) := fun h => c_7 ((nI_leI (a := 8) (b := (j + 1)) (by omega) (by omega)).mpr h)
      refine lv_aload_n hx hb dX4_nearestTurn_10 rfl (lv_at hl 0 rfl) ?_
      refine lv_iload_n hx hb dX4_nearestTurn_11 rfl (lv_at hl 2 rfl) ?_
      refine cx_ri (va_runV (As := [.int (nI (j + 1))]) (rest := []) ⟨hx, hb, hml, hown, hts⟩ (c_X4_far l D T ad I R (j + 1) (by omega)) (cwV 1 hts gX4_nearestTurn_X4_far rfl rfl rfl (by decide +kernel) ⟨Nat.le_of_ble_eq_true rfl, Nat.le_of_ble_eq_true rfl⟩) ⟨MR.blind, va_recv hK hP (ci := 4) (q0 := 0) rfl mw_0, (MR.pre hP hK rfl)⟩ rfl rfl hl.1 rfl (lv_room (Nat.le_of_ble_eq_true rfl)) dX4_nearestTurn_12 ⟨Nat.le_of_ble_eq_true rfl, Nat.le_of_ble_eq_true rfl⟩) hS hP (fun H locs hP hS => ?_)
      refine lv_aload_n hx hb dX4_nearestTurn_15 rfl (lv_at hl 0 rfl) ?_
      refine lv_iload_n hx hb dX4_nearestTurn_16 rfl (lv_at hl 1 rfl) ?_
      refine cx_ri (va_runV (As := [.int (nI b)]) (rest := [.int (dtS (qz ((R 0))) (us ((R 0))) (j + 1) 8)]) ⟨hx, hb, hml, hown, hts⟩ (c_X4_far l D T ad I R b (by have := bt_le (fun b => dtS (qz (R 0)) (us (R 0)) b 8) j; omega)) (cwV 1 hts gX4_nearestTurn_X4_far rfl rfl rfl (by decide +kernel) ⟨Nat.le_of_ble_eq_true rfl, Nat.le_of_ble_eq_true rfl⟩) ⟨MR.blind, va_recv hK hP (ci := 4) (q0 := 0) rfl mw_0, (MR.pre hP hK rfl)⟩ rfl rfl hl.1 rfl (lv_room (Nat.le_of_ble_eq_true rfl)) dX4_nearestTurn_17 ⟨Nat.le_of_ble_eq_true rfl, Nat.le_of_ble_eq_true rfl⟩) hS hP (fun H locs hP hS => ?_)
      refine lv_icmp_ge (tgt := 27) hx hb dX4_nearestTurn_20 (by decide) (fun c_20 => ?_) (fun c_20 => ?_)
      · refine lv_iload_n hx hb dX4_nearestTurn_27 rfl (lv_at hl 1 rfl) ?_
        refine lv_istore_n (lv' := [(1, .int (nI b)), (0, .ref (ad 0)), (2, .int (nI (j + 1)))]) hx hb dX4_nearestTurn_28 rfl hl (by decide) rfl (fun ls hl => ?_)
        refine lv_iinc (k := 2) (v := (nI (j + 1 + 1))) (lv' := [(2, .int (nI (j + 1 + 1))), (1, .int (nI b)), (0, .ref (ad 0))]) hx hb dX4_nearestTurn_29 hl rfl (nI_add (j + 1) 1) (by decide) rfl (fun ls hl => ?_)
        refine lv_goto (tgt := 4) hx hb dX4_nearestTurn_32 (by decide) ?_
        exact ih_4 (j + 1) b _ _ _ (by omega) (by omega) (by first | exact btm_a hbj c_20 | exact btm_b hbj c_20) hP hS (lv_sub hl [2, 1, 0] rfl)
      · refine lv_iload_n hx hb dX4_nearestTurn_23 rfl (lv_at hl 2 rfl) ?_
        refine lv_goto (tgt := 28) hx hb dX4_nearestTurn_24 (by decide) ?_
        refine lv_istore_n (lv' := [(1, .int (nI (j + 1))), (0, .ref (ad 0)), (2, .int (nI (j + 1)))]) hx hb dX4_nearestTurn_28 rfl hl (by decide) rfl (fun ls hl => ?_)
        refine lv_iinc (k := 2) (v := (nI (j + 1 + 1))) (lv' := [(2, .int (nI (j + 1 + 1))), (1, .int (nI (j + 1))), (0, .ref (ad 0))]) hx hb dX4_nearestTurn_29 hl rfl (nI_add (j + 1) 1) (by decide) rfl (fun ls hl => ?_)
        refine lv_goto (tgt := 4) hx hb dX4_nearestTurn_32 (by decide) ?_
        exact ih_4 (j + 1) (j + 1) _ _ _ (by omega) (by omega) (by first | exact btm_a hbj c_20 | exact btm_b hbj c_20) hP hS (lv_sub hl [2, 1, 0] rfl)
set_option maxHeartbeats 4000000 in
set_option maxRecDepth 100000 in
theorem c_X4_share (l : Launch) (D : va_G) (T : Nat → ClassId) (ad : Nat → Nat) (I : Nat → Int32) (R : Nat → Nat → Int32) (hnd : NND) : Met l yX4_share wsX4_share ({ frames := 1, cells := 0, slots := 0, locals := 21 }) (va_Pc [.ref (ad 0)] (MR D T ad I R)) (RqD (msF (us (R 0)))) 0 0 (fun _ => False) := by
  refine Met.ofW (cc := cX4_share) (maxL := 5) (ret := (some .double)) (by decide) rfl ?_
  intro p e s m args_ below meth c s₁ B hml hv
  obtain ⟨rfl, hP, hK⟩ := hv
  have hx := B.exec
  have hb := B.bytes
  have hr := B.returns
  have hts := atoms_spec (ws := wsX4_share) B.pre
  have hown : s.vm.findClass RX4 = some m.cls := findClass_of_methodNamed B.named
  have hlocks := B.notSynchronized
  have hS : va_S (fun _ => False) s.heap s.heap [] := va_S.rf
  have hl := lv_entry ([.ref (ad 0)]) (n := 5) (Nat.le_of_ble_eq_true rfl)
  rw [lg_entry_eq]
  generalize (lg_sl ([.ref (ad 0)]) ++ List.replicate (5 - (lg_sl ([.ref (ad 0)])).length) Slot.unset).toArray = ls at hl ⊢
  have hl : lv_has ls 5 [(0, .ref (ad 0))] := hl
  refine lv_iconst (v := 0) hx hb dX4_share_0 (by decide) ?_
  refine lv_istore_n (lv' := [(1, .int 0), (0, .ref (ad 0))]) hx hb dX4_share_1 rfl hl (by decide) rfl (fun ls hl => ?_)
  refine lv_iconst (v := 0) hx hb dX4_share_2 (by decide) ?_
  refine lv_istore_n (lv' := [(2, .int 0), (1, .int 0), (0, .ref (ad 0))]) hx hb dX4_share_3 rfl hl (by decide) rfl (fun ls hl => ?_)
  refine lv_iconst (v := 0) hx hb dX4_share_4 (by decide) ?_
  refine lv_istore_n (lv' := [(3, .int 0), (2, .int 0), (1, .int 0), (0, .ref (ad 0))]) hx hb dX4_share_5 rfl hl (by decide) rfl (fun ls hl => ?_)
  suffices ih_6 : ∀ (fu : Nat) (i : Nat) (y : Int32) (H : Heap) (locs : List Loc) (ls : Array Slot), 8 - i < fu → (i ≤ 8) → (y = mxS (us (R 0)) i) → va_P D vwCl (mw T ad I R) H →  va_S (fun _ => False) s.heap H locs → lv_has ls 5 [(0, .ref (ad 0)), (1, .int y), (2, .int (sqS (us (R 0)) i)), (3, .int (nI i))] → W p l e (headSpec wsX4_share ({ frames := 1, cells := 0, slots := 0, locals := 21 })).room s m ([.ref (ad 0)] : List Value).toArray below meth c H locs 0 0 (MQ below (RqD (msF (us (R 0)))) ([.ref (ad 0)] : List Value).toArray s 0 0 (fun _ => False)) (F0 m 6 ls []) from
    ih_6 _ 0 0 _ _ _ (Nat.lt_succ_self _) (by omega) (rfl) hP hS (lv_sub hl [3, 2, 1, 0] rfl)
  intro fu
  induction fu with
  | zero => intro i y H locs ls hfu; exact absurd hfu (Nat.not_lt_zero _)
  | succ fu ih_6 =>
    intro i y H locs ls hfu hi hy hP hS hl
    refine lv_iload_n hx hb dX4_share_6 rfl (lv_at hl 3 rfl) ?_
    refine lv_bipush (v := 8) hx hb dX4_share_7 (by decide) ?_
    refine lv_icmp_ge (tgt := 49) hx hb dX4_share_9 (by decide) (fun c_9 => ?_) (fun c_9 => ?_)
    · have c_9 : 8 ≤ i := (nI_leI (a := 8) (b := i) (by omega) (by omega)).mp c_9
      obtain rfl : i = 8 := by omega
      refine lv_iload_n hx hb dX4_share_49 rfl (lv_at hl 2 rfl) ?_
      refine lv_if_ne (tgt := 57) hx hb dX4_share_50 (by decide) (fun c_50 => ?_) (fun c_50 => ?_)
      · refine lv_iload_n hx hb dX4_share_57 rfl (lv_at hl 1 rfl) ?_
        refine lv_i2d hx hb dX4_share_58 ?_
        refine lv_iload_n hx hb dX4_share_59 rfl (lv_at hl 2 rfl) ?_
        refine lv_i2d hx hb dX4_share_60 ?_
        refine lv_ddiv hx hb dX4_share_61 (hnd _ _ c_50) ?_
        exact W.dret (v := (FP.ddiv (FP.i2d y) (FP.i2d (sqS (us (R 0)) 8)))) hx hb hr (fun t ht hW => ⟨⟨(FP.ddiv (FP.i2d y) (FP.i2d (sqS (us (R 0)) 8))), (), rfl, (by first | exact (if_pos c_50).symm | (subst hy; exact (if_neg c_50).symm)), trivial⟩, hS.F ht⟩) hS.2.2 dX4_share_62
      · refine lv_dconst0 hx hb dX4_share_53 ?_
        refine lv_goto (tgt := 62) hx hb dX4_share_54 (by decide) ?_
        exact W.dret (v := (FP.dconst0)) hx hb hr (fun t ht hW => ⟨⟨(FP.dconst0), (), rfl, (by first | exact (if_pos c_50).symm | (subst hy; exact (if_neg c_50).symm)), trivial⟩, hS.F ht⟩) hS.2.2 dX4_share_62
    · have c_9 : ¬ (8 ≤ i) := fun h => c_9 ((nI_leI (a := 8) (b := i) (by omega) (by omega)).mpr h)
      refine lv_aload_n hx hb dX4_share_12 rfl (lv_at hl 0 rfl) ?_
      refine lv_iload_n hx hb dX4_share_13 rfl (lv_at hl 3 rfl) ?_
      refine cx_ri (va_runV (As := [.int (nI i)]) (rest := []) ⟨hx, hb, hml, hown, hts⟩ (c_X4_used l D T ad I R i (by omega)) (cwV 1 hts gX4_share_X4_used rfl rfl rfl (by decide +kernel) ⟨Nat.le_of_ble_eq_true rfl, Nat.le_of_ble_eq_true rfl⟩) ⟨MR.blind, va_recv hK hP (ci := 4) (q0 := 0) rfl mw_0, (MR.pre hP hK rfl)⟩ rfl rfl hl.1 rfl (lv_room (Nat.le_of_ble_eq_true rfl)) dX4_share_14 ⟨Nat.le_of_ble_eq_true rfl, Nat.le_of_ble_eq_true rfl⟩) hS hP (fun H locs hP hS => ?_)
      refine lv_aload_n hx hb dX4_share_17 rfl (lv_at hl 0 rfl) ?_
      refine lv_iload_n hx hb dX4_share_18 rfl (lv_at hl 3 rfl) ?_
      refine cx_ri (va_runV (As := [.int (nI i)]) (rest := [.int (us ((R 0)) i)]) ⟨hx, hb, hml, hown, hts⟩ (c_X4_used l D T ad I R i (by omega)) (cwV 1 hts gX4_share_X4_used rfl rfl rfl (by decide +kernel) ⟨Nat.le_of_ble_eq_true rfl, Nat.le_of_ble_eq_true rfl⟩) ⟨MR.blind, va_recv hK hP (ci := 4) (q0 := 0) rfl mw_0, (MR.pre hP hK rfl)⟩ rfl rfl hl.1 rfl (lv_room (Nat.le_of_ble_eq_true rfl)) dX4_share_19 ⟨Nat.le_of_ble_eq_true rfl, Nat.le_of_ble_eq_true rfl⟩) hS hP (fun H locs hP hS => ?_)
      refine lv_imul hx hb dX4_share_22 ?_
      refine lv_istore (lv' := [(4, .int ((us ((R 0)) i) * (us ((R 0)) i))), (0, .ref (ad 0)), (1, .int y), (2, .int (sqS (us (R 0)) i)), (3, .int (nI i))]) hx hb dX4_share_23 hl (by decide) rfl (fun ls hl => ?_)
      refine lv_iload hx hb dX4_share_25 (lv_at hl 0 rfl) ?_
      refine lv_iload_n hx hb dX4_share_27 rfl (lv_at hl 2 rfl) ?_
      refine lv_icmp_le (tgt := 36) hx hb dX4_share_28 (by decide) (fun c_28 => ?_) (fun c_28 => ?_)
      · refine lv_iload_n hx hb dX4_share_36 rfl (lv_at hl 2 rfl) ?_
        refine lv_istore_n (lv' := [(1, .int y), (4, .int ((us ((R 0)) i) * (us ((R 0)) i))), (0, .ref (ad 0)), (2, .int (sqS (us (R 0)) i)), (3, .int (nI i))]) hx hb dX4_share_37 rfl hl (by decide) rfl (fun ls hl => ?_)
        refine lv_iload_n hx hb dX4_share_38 rfl (lv_at hl 3 rfl) ?_
        refine lv_iload hx hb dX4_share_39 (lv_at hl 1 rfl) ?_
        refine lv_iadd hx hb dX4_share_41 ?_
        refine lv_istore_n (lv' := [(2, .int ((sqS (us (R 0)) i) + ((us ((R 0)) i) * (us ((R 0)) i)))), (1, .int y), (4, .int ((us ((R 0)) i) * (us ((R 0)) i))), (0, .ref (ad 0)), (3, .int (nI i))]) hx hb dX4_share_42 rfl hl (by decide) rfl (fun ls hl => ?_)
        refine lv_iinc (k := 4) (v := (nI (i + 1))) (lv' := [(3, .int (nI (i + 1))), (2, .int ((sqS (us (R 0)) i) + ((us ((R 0)) i) * (us ((R 0)) i)))), (1, .int y), (4, .int ((us ((R 0)) i) * (us ((R 0)) i))), (0, .ref (ad 0))]) hx hb dX4_share_43 hl rfl (nI_add i 1) (by decide) rfl (fun ls hl => ?_)
        refine lv_goto (tgt := 6) hx hb dX4_share_46 (by decide) ?_
        exact ih_6 (i + 1) y _ _ _ (by omega) (by omega) (by first | exact mxm_a hy c_28 | exact mxm_b hy c_28) hP hS (lv_sub hl [4, 2, 1, 0] rfl)
      · refine lv_iload hx hb dX4_share_31 (lv_at hl 0 rfl) ?_
        refine lv_goto (tgt := 37) hx hb dX4_share_33 (by decide) ?_
        refine lv_istore_n (lv' := [(1, .int ((us ((R 0)) i) * (us ((R 0)) i))), (4, .int ((us ((R 0)) i) * (us ((R 0)) i))), (0, .ref (ad 0)), (2, .int (sqS (us (R 0)) i)), (3, .int (nI i))]) hx hb dX4_share_37 rfl hl (by decide) rfl (fun ls hl => ?_)
        refine lv_iload_n hx hb dX4_share_38 rfl (lv_at hl 3 rfl) ?_
        refine lv_iload hx hb dX4_share_39 (lv_at hl 1 rfl) ?_
        refine lv_iadd hx hb dX4_share_41 ?_
        refine lv_istore_n (lv' := [(2, .int ((sqS (us (R 0)) i) + ((us ((R 0)) i) * (us ((R 0)) i)))), (1, .int ((us ((R 0)) i) * (us ((R 0)) i))), (4, .int ((us ((R 0)) i) * (us ((R 0)) i))), (0, .ref (ad 0)), (3, .int (nI i))]) hx hb dX4_share_42 rfl hl (by decide) rfl (fun ls hl => ?_)
        refine lv_iinc (k := 4) (v := (nI (i + 1))) (lv' := [(3, .int (nI (i + 1))), (2, .int ((sqS (us (R 0)) i) + ((us ((R 0)) i) * (us ((R 0)) i)))), (1, .int ((us ((R 0)) i) * (us ((R 0)) i))), (4, .int ((us ((R 0)) i) * (us ((R 0)) i))), (0, .ref (ad 0))]) hx hb dX4_share_43 hl rfl (nI_add i 1) (by decide) rfl (fun ls hl => ?_)
        refine lv_goto (tgt := 6) hx hb dX4_share_46 (by decide) ?_
        exact ih_6 (i + 1) ((us ((R 0)) i) * (us ((R 0)) i)) _ _ _ (by omega) (by omega) (by first | exact mxm_a hy c_28 | exact mxm_b hy c_28) hP hS (lv_sub hl [4, 2, 1, 0] rfl)

set_option maxHeartbeats 4000000 in
set_option maxRecDepth 100000 in
theorem h_set (l : Launch) (D : va_G) (T : Nat → ClassId) (ad : Nat → Nat) (I : Nat → Int32) (R : Nat → Nat → Int32) (sz : Nat) (nx : Nat) (ct : Nat) (k : Nat) (x : Int32) (hAD : AD 34 ad) (hnx : nx < 6) (hct : ct ≤ 6) (hI1 : I 1 = nI nx) (hI2 : I 2 = nI ct) (hk : k < 8) (hx9 : outI x (-99) 99 = 0) : Met l yL_set wsL_set ({ frames := 4, cells := 0, slots := 0, locals := 83 }) (va_Pc [.ref (ad 0), .int (nI k), .int x] (CB D T ad I R sz)) (va_Qi (fun r (u9 : Unit) => r = (R 0 k) ∧ True) (fun (u9 : Unit) t => va_P D vwCl (cw T ad (pushI I nx ct) (updR (pushR R nx) 0 (upd (R 0) k x))) t.heap) (cA 34 ad sz)) 0 0 (cA 34 ad sz) := by
  refine metH_ofW (cc := cL_set) (maxL := 5) (ret := some .int) (by decide) rfl ?_
  intro p e s m args_ below meth c s₁ B hml hv
  obtain ⟨rfl, hsz, hP, hK, hN⟩ := hv
  have hx := B.exec
  have hb := B.bytes
  have hr := B.returns
  have hts := atoms_spec (ws := wsL_set) B.pre
  have hown : s.vm.findClass RL = some m.cls := findClass_of_methodNamed B.named
  have hlocks := B.notSynchronized
  subst hsz
  have hS : va_S (cA 34 ad s.heap.size) s.heap s.heap [] := va_S.rf
  have hl := lv_entry ([.ref (ad 0), .int (nI k), .int x]) (n := 5) (Nat.le_of_ble_eq_true rfl)
  rw [lg_entry_eq]
  generalize (lg_sl ([.ref (ad 0), .int (nI k), .int x]) ++ List.replicate (5 - (lg_sl ([.ref (ad 0), .int (nI k), .int x])).length) Slot.unset).toArray = ls at hl ⊢
  have hl : lv_has ls 5 [(0, .ref (ad 0)), (1, .int (nI k)), (2, .int x)] := hl
  refine lv_aload_n hx hb dL_set_0 rfl (lv_at hl 0 rfl) ?_
  refine lv_iload_n hx hb dL_set_1 rfl (lv_at hl 1 rfl) ?_
  refine lv_iload_n hx hb dL_set_2 rfl (lv_at hl 2 rfl) ?_
  refine cx_wi (va_runV (As := [.int (nI k), .int x]) (rest := []) ⟨hx, hb, hml, hown, hts⟩ (c_X3_set l D T ad I R _ nx ct k x hAD hnx hct hI1 hI2 hk hx9) (cwV 2 hts gL_set_X3_set rfl rfl rfl (by decide +kernel) ⟨Nat.le_of_ble_eq_true rfl, Nat.le_of_ble_eq_true rfl⟩) ⟨CB.blind, va_recv hK hP (ci := 3) (q0 := 0) rfl cw_0, CB.pre hP hK hN rfl⟩ rfl rfl hl.1 rfl (lv_room (Nat.le_of_ble_eq_true rfl)) dL_set_3 ⟨Nat.le_of_ble_eq_true rfl, Nat.le_of_ble_eq_true rfl⟩) hS (cA_le hS.1) (cA_le hS.1) (fun _ H locs _ hP hkk hS => ?_)
  refine lv_istore_n (lv' := [(3, .int (R 0 k)), (0, .ref (ad 0)), (1, .int (nI k)), (2, .int x)]) hx hb dL_set_6 rfl hl (by decide) rfl (fun ls hl => ?_)
  refine lv_goto (tgt := 20) hx hb dL_set_7 (by decide) ?_
  refine lv_iload_n hx hb dL_set_20 rfl (lv_at hl 0 rfl) ?_
  exact W.iret hx hb hr (fun t ht hW => ⟨⟨_, (), rfl, ⟨rfl, trivial⟩, by show va_P _ _ _ _; rw [ht]; exact hP⟩, hS.F ht⟩) hS.2.2 dL_set_21
set_option maxHeartbeats 4000000 in
set_option maxRecDepth 100000 in
theorem h_lose (l : Launch) (D : va_G) (T : Nat → ClassId) (ad : Nat → Nat) (I : Nat → Int32) (R : Nat → Nat → Int32) (sz : Nat) (nx : Nat) (ct : Nat) (lm : Nat) (k : Nat) (hAD : AD 34 ad) (hnx : nx < 6) (hct : ct ≤ 6) (hI1 : I 1 = nI nx) (hI2 : I 2 = nI ct) (hm : lm < 256) (hI : I 4 = nI lm) (hk : k < 8) : Met l yL_lose wsL_lose ({ frames := 4, cells := 0, slots := 0, locals := 81 }) (va_Pc [.ref (ad 0), .int (nI k)] (CB D T ad I R sz)) (va_Qi (fun r (u9 : Unit) => r = (lbI (lm ^^^ 2 ^ k) k) ∧ True) (fun (u9 : Unit) t => va_P D vwCl (cw T ad (upd (pushI I nx ct) 4 (nI (lm ^^^ 2 ^ k))) (pushR R nx)) t.heap) (cA 34 ad sz)) 0 0 (cA 34 ad sz) := by
  refine metH_ofW (cc := cL_lose) (maxL := 4) (ret := some .int) (by decide) rfl ?_
  intro p e s m args_ below meth c s₁ B hml hv
  obtain ⟨rfl, hsz, hP, hK, hN⟩ := hv
  have hx := B.exec
  have hb := B.bytes
  have hr := B.returns
  have hts := atoms_spec (ws := wsL_lose) B.pre
  have hown : s.vm.findClass RL = some m.cls := findClass_of_methodNamed B.named
  have hlocks := B.notSynchronized
  subst hsz
  have hS : va_S (cA 34 ad s.heap.size) s.heap s.heap [] := va_S.rf
  have hl := lv_entry ([.ref (ad 0), .int (nI k)]) (n := 4) (Nat.le_of_ble_eq_true rfl)
  rw [lg_entry_eq]
  generalize (lg_sl ([.ref (ad 0), .int (nI k)]) ++ List.replicate (4 - (lg_sl ([.ref (ad 0), .int (nI k)])).length) Slot.unset).toArray = ls at hl ⊢
  have hl : lv_has ls 4 [(0, .ref (ad 0)), (1, .int (nI k))] := hl
  refine lv_aload_n hx hb dL_lose_0 rfl (lv_at hl 0 rfl) ?_
  refine lv_iload_n hx hb dL_lose_1 rfl (lv_at hl 1 rfl) ?_
  refine cx_wi (va_runV (As := [.int (nI k)]) (rest := []) ⟨hx, hb, hml, hown, hts⟩ (c_X3_lose l D T ad I R _ nx ct lm k hAD hnx hct hI1 hI2 hm hI hk) (cwV 1 hts gL_lose_X3_lose rfl rfl rfl (by decide +kernel) ⟨Nat.le_of_ble_eq_true rfl, Nat.le_of_ble_eq_true rfl⟩) ⟨CB.blind, va_recv hK hP (ci := 3) (q0 := 0) rfl cw_0, CB.pre hP hK hN rfl⟩ rfl rfl hl.1 rfl (lv_room (Nat.le_of_ble_eq_true rfl)) dL_lose_2 ⟨Nat.le_of_ble_eq_true rfl, Nat.le_of_ble_eq_true rfl⟩) hS (cA_le hS.1) (cA_le hS.1) (fun _ H locs _ hP hkk hS => ?_)
  refine lv_istore_n (lv' := [(2, .int (lbI (lm ^^^ 2 ^ k) k)), (0, .ref (ad 0)), (1, .int (nI k))]) hx hb dL_lose_5 rfl hl (by decide) rfl (fun ls hl => ?_)
  refine lv_goto (tgt := 13) hx hb dL_lose_6 (by decide) ?_
  refine lv_iload_n hx hb dL_lose_13 rfl (lv_at hl 0 rfl) ?_
  exact W.iret hx hb hr (fun t ht hW => ⟨⟨_, (), rfl, ⟨rfl, trivial⟩, by show va_P _ _ _ _; rw [ht]; exact hP⟩, hS.F ht⟩) hS.2.2 dL_lose_14
set_option maxHeartbeats 4000000 in
set_option maxRecDepth 100000 in
theorem h_turn (l : Launch) (D : va_G) (T : Nat → ClassId) (ad : Nat → Nat) (I : Nat → Int32) (R : Nat → Nat → Int32) (sz : Nat) (nx : Nat) (ct : Nat) (b : Nat) (hAD : AD 34 ad) (hnx : nx < 6) (hct : ct ≤ 6) (hI1 : I 1 = nI nx) (hI2 : I 2 = nI ct) (hb8 : b < 8) : Met l yL_turn wsL_turn ({ frames := 4, cells := 0, slots := 0, locals := 83 }) (va_Pc [.ref (ad 0), .int (nI b)] (CB D T ad I R sz)) (va_Qi (fun r (u9 : Unit) => r = (tuS (R 0) b 8) ∧ True) (fun (u9 : Unit) t => va_P D vwCl (cw T ad (pushI I nx ct) (updR (pushR R nx) 0 (tuF (R 0) b))) t.heap) (cA 34 ad sz)) 0 0 (cA 34 ad sz) := by
  refine metH_ofW (cc := cL_turn) (maxL := 4) (ret := some .int) (by decide) rfl ?_
  intro p e s m args_ below meth c s₁ B hml hv
  obtain ⟨rfl, hsz, hP, hK, hN⟩ := hv
  have hx := B.exec
  have hb := B.bytes
  have hr := B.returns
  have hts := atoms_spec (ws := wsL_turn) B.pre
  have hown : s.vm.findClass RL = some m.cls := findClass_of_methodNamed B.named
  have hlocks := B.notSynchronized
  subst hsz
  have hS : va_S (cA 34 ad s.heap.size) s.heap s.heap [] := va_S.rf
  have hl := lv_entry ([.ref (ad 0), .int (nI b)]) (n := 4) (Nat.le_of_ble_eq_true rfl)
  rw [lg_entry_eq]
  generalize (lg_sl ([.ref (ad 0), .int (nI b)]) ++ List.replicate (4 - (lg_sl ([.ref (ad 0), .int (nI b)])).length) Slot.unset).toArray = ls at hl ⊢
  have hl : lv_has ls 4 [(0, .ref (ad 0)), (1, .int (nI b))] := hl
  refine lv_aload_n hx hb dL_turn_0 rfl (lv_at hl 0 rfl) ?_
  refine lv_iload_n hx hb dL_turn_1 rfl (lv_at hl 1 rfl) ?_
  refine cx_wi (va_runV (As := [.int (nI b)]) (rest := []) ⟨hx, hb, hml, hown, hts⟩ (c_X3_turn l D T ad I R _ nx ct b hAD hnx hct hI1 hI2 hb8) (cwV 1 hts gL_turn_X3_turn rfl rfl rfl (by decide +kernel) ⟨Nat.le_of_ble_eq_true rfl, Nat.le_of_ble_eq_true rfl⟩) ⟨CB.blind, va_recv hK hP (ci := 3) (q0 := 0) rfl cw_0, CB.pre hP hK hN rfl⟩ rfl rfl hl.1 rfl (lv_room (Nat.le_of_ble_eq_true rfl)) dL_turn_2 ⟨Nat.le_of_ble_eq_true rfl, Nat.le_of_ble_eq_true rfl⟩) hS (cA_le hS.1) (cA_le hS.1) (fun _ H locs _ hP hkk hS => ?_)
  refine lv_istore_n (lv' := [(2, .int (tuS (R 0) b 8)), (0, .ref (ad 0)), (1, .int (nI b))]) hx hb dL_turn_5 rfl hl (by decide) rfl (fun ls hl => ?_)
  refine lv_goto (tgt := 13) hx hb dL_turn_6 (by decide) ?_
  refine lv_iload_n hx hb dL_turn_13 rfl (lv_at hl 0 rfl) ?_
  exact W.iret hx hb hr (fun t ht hW => ⟨⟨_, (), rfl, ⟨rfl, trivial⟩, by show va_P _ _ _ _; rw [ht]; exact hP⟩, hS.F ht⟩) hS.2.2 dL_turn_14
set_option maxHeartbeats 4000000 in
set_option maxRecDepth 100000 in
theorem h_drop (l : Launch) (D : va_G) (T : Nat → ClassId) (ad : Nat → Nat) (I : Nat → Int32) (R : Nat → Nat → Int32) (sz : Nat) (nx : Nat) (ct : Nat) (x : Int32) (hAD : AD 34 ad) (hnx : nx < 6) (hct : ct ≤ 6) (hI1 : I 1 = nI nx) (hI2 : I 2 = nI ct) (hx9 : outI x 1 99 = 0) : Met l yL_drop wsL_drop ({ frames := 4, cells := 0, slots := 0, locals := 83 }) (va_Pc [.ref (ad 0), .int x] (CB D T ad I R sz)) (va_Qi (fun r (u9 : Unit) => r = (doS (R 0) x 8) ∧ True) (fun (u9 : Unit) t => va_P D vwCl (cw T ad (pushI I nx ct) (updR (pushR R nx) 0 (doF (R 0) x))) t.heap) (cA 34 ad sz)) 0 0 (cA 34 ad sz) := by
  refine metH_ofW (cc := cL_drop) (maxL := 4) (ret := some .int) (by decide) rfl ?_
  intro p e s m args_ below meth c s₁ B hml hv
  obtain ⟨rfl, hsz, hP, hK, hN⟩ := hv
  have hx := B.exec
  have hb := B.bytes
  have hr := B.returns
  have hts := atoms_spec (ws := wsL_drop) B.pre
  have hown : s.vm.findClass RL = some m.cls := findClass_of_methodNamed B.named
  have hlocks := B.notSynchronized
  subst hsz
  have hS : va_S (cA 34 ad s.heap.size) s.heap s.heap [] := va_S.rf
  have hl := lv_entry ([.ref (ad 0), .int x]) (n := 4) (Nat.le_of_ble_eq_true rfl)
  rw [lg_entry_eq]
  generalize (lg_sl ([.ref (ad 0), .int x]) ++ List.replicate (4 - (lg_sl ([.ref (ad 0), .int x])).length) Slot.unset).toArray = ls at hl ⊢
  have hl : lv_has ls 4 [(0, .ref (ad 0)), (1, .int x)] := hl
  refine lv_aload_n hx hb dL_drop_0 rfl (lv_at hl 0 rfl) ?_
  refine lv_iload_n hx hb dL_drop_1 rfl (lv_at hl 1 rfl) ?_
  refine cx_wi (va_runV (As := [.int x]) (rest := []) ⟨hx, hb, hml, hown, hts⟩ (c_X3_drop l D T ad I R _ nx ct x hAD hnx hct hI1 hI2 hx9) (cwV 1 hts gL_drop_X3_drop rfl rfl rfl (by decide +kernel) ⟨Nat.le_of_ble_eq_true rfl, Nat.le_of_ble_eq_true rfl⟩) ⟨CB.blind, va_recv hK hP (ci := 3) (q0 := 0) rfl cw_0, CB.pre hP hK hN rfl⟩ rfl rfl hl.1 rfl (lv_room (Nat.le_of_ble_eq_true rfl)) dL_drop_2 ⟨Nat.le_of_ble_eq_true rfl, Nat.le_of_ble_eq_true rfl⟩) hS (cA_le hS.1) (cA_le hS.1) (fun _ H locs _ hP hkk hS => ?_)
  refine lv_istore_n (lv' := [(2, .int (doS (R 0) x 8)), (0, .ref (ad 0)), (1, .int x)]) hx hb dL_drop_5 rfl hl (by decide) rfl (fun ls hl => ?_)
  refine lv_goto (tgt := 13) hx hb dL_drop_6 (by decide) ?_
  refine lv_iload_n hx hb dL_drop_13 rfl (lv_at hl 0 rfl) ?_
  exact W.iret hx hb hr (fun t ht hW => ⟨⟨_, (), rfl, ⟨rfl, trivial⟩, by show va_P _ _ _ _; rw [ht]; exact hP⟩, hS.F ht⟩) hS.2.2 dL_drop_14
set_option maxHeartbeats 4000000 in
set_option maxRecDepth 100000 in
theorem h_point (l : Launch) (D : va_G) (T : Nat → ClassId) (ad : Nat → Nat) (I : Nat → Int32) (R : Nat → Nat → Int32) (sz : Nat) (nx : Nat) (ct : Nat) (k : Nat) (x : Int32) (hAD : AD 34 ad) (hnx : nx < 6) (hct : ct ≤ 6) (hI1 : I 1 = nI nx) (hI2 : I 2 = nI ct) (hk : k < 8) (hx9 : outI x (-9999) 9999 = 0) : Met l yL_point wsL_point ({ frames := 4, cells := 0, slots := 0, locals := 83 }) (va_Pc [.ref (ad 0), .int (nI k), .int x] (CB D T ad I R sz)) (va_Qi (fun r (u9 : Unit) => r = (R 1 k) ∧ True) (fun (u9 : Unit) t => va_P D vwCl (cw T ad (pushI I nx ct) (updR (pushR R nx) 1 (upd (R 1) k x))) t.heap) (cA 34 ad sz)) 0 0 (cA 34 ad sz) := by
  refine metH_ofW (cc := cL_point) (maxL := 5) (ret := some .int) (by decide) rfl ?_
  intro p e s m args_ below meth c s₁ B hml hv
  obtain ⟨rfl, hsz, hP, hK, hN⟩ := hv
  have hx := B.exec
  have hb := B.bytes
  have hr := B.returns
  have hts := atoms_spec (ws := wsL_point) B.pre
  have hown : s.vm.findClass RL = some m.cls := findClass_of_methodNamed B.named
  have hlocks := B.notSynchronized
  subst hsz
  have hS : va_S (cA 34 ad s.heap.size) s.heap s.heap [] := va_S.rf
  have hl := lv_entry ([.ref (ad 0), .int (nI k), .int x]) (n := 5) (Nat.le_of_ble_eq_true rfl)
  rw [lg_entry_eq]
  generalize (lg_sl ([.ref (ad 0), .int (nI k), .int x]) ++ List.replicate (5 - (lg_sl ([.ref (ad 0), .int (nI k), .int x])).length) Slot.unset).toArray = ls at hl ⊢
  have hl : lv_has ls 5 [(0, .ref (ad 0)), (1, .int (nI k)), (2, .int x)] := hl
  refine lv_aload_n hx hb dL_point_0 rfl (lv_at hl 0 rfl) ?_
  refine lv_iload_n hx hb dL_point_1 rfl (lv_at hl 1 rfl) ?_
  refine lv_iload_n hx hb dL_point_2 rfl (lv_at hl 2 rfl) ?_
  refine cx_wi (va_runV (As := [.int (nI k), .int x]) (rest := []) ⟨hx, hb, hml, hown, hts⟩ (c_X3_point l D T ad I R _ nx ct k x hAD hnx hct hI1 hI2 hk hx9) (cwV 2 hts gL_point_X3_point rfl rfl rfl (by decide +kernel) ⟨Nat.le_of_ble_eq_true rfl, Nat.le_of_ble_eq_true rfl⟩) ⟨CB.blind, va_recv hK hP (ci := 3) (q0 := 0) rfl cw_0, CB.pre hP hK hN rfl⟩ rfl rfl hl.1 rfl (lv_room (Nat.le_of_ble_eq_true rfl)) dL_point_3 ⟨Nat.le_of_ble_eq_true rfl, Nat.le_of_ble_eq_true rfl⟩) hS (cA_le hS.1) (cA_le hS.1) (fun _ H locs _ hP hkk hS => ?_)
  refine lv_istore_n (lv' := [(3, .int (R 1 k)), (0, .ref (ad 0)), (1, .int (nI k)), (2, .int x)]) hx hb dL_point_6 rfl hl (by decide) rfl (fun ls hl => ?_)
  refine lv_goto (tgt := 20) hx hb dL_point_7 (by decide) ?_
  refine lv_iload_n hx hb dL_point_20 rfl (lv_at hl 0 rfl) ?_
  exact W.iret hx hb hr (fun t ht hW => ⟨⟨_, (), rfl, ⟨rfl, trivial⟩, by show va_P _ _ _ _; rw [ht]; exact hP⟩, hS.F ht⟩) hS.2.2 dL_point_21
set_option maxHeartbeats 4000000 in
set_option maxRecDepth 100000 in
theorem h_set_t1 (l : Launch) (D : va_G) (T : Nat → ClassId) (ad : Nat → Nat) (I : Nat → Int32) (R : Nat → Nat → Int32) (hlt : l.stackTraces = false) (v : Int32) (x : Int32) (h1 : outI v 0 7 = 1) : Met l yL_set wsL_set ({ frames := 7, cells := 1, slots := 6, locals := 105 }) (va_Pc [.ref (ad 0), .int v, .int x] (XN D T ad I R)) (RqI (-31)) 1 6 (fun _ => False) := by
  refine metH_ofW (cc := cL_set) (maxL := 5) (ret := some .int) (by decide) rfl ?_
  intro p e s m args_ below meth c s₁ B hml hv
  obtain ⟨rfl, ⟨⟨hP, hK, hN⟩, hXU, hXZ⟩, hNc⟩ := hv
  have hx := B.exec
  have hb := B.bytes
  have hr := B.returns
  have hts := atoms_spec (ws := wsL_set) B.pre
  have hown : s.vm.findClass RL = some m.cls := findClass_of_methodNamed B.named
  have hlocks := B.notSynchronized
  have hS : va_S (fun _ => False) s.heap s.heap [] := va_S.rf
  have hl := lv_entry ([.ref (ad 0), .int v, .int x]) (n := 5) (Nat.le_of_ble_eq_true rfl)
  rw [lg_entry_eq]
  generalize (lg_sl ([.ref (ad 0), .int v, .int x]) ++ List.replicate (5 - (lg_sl ([.ref (ad 0), .int v, .int x])).length) Slot.unset).toArray = ls at hl ⊢
  have hl : lv_has ls 5 [(0, .ref (ad 0)), (1, .int v), (2, .int x)] := hl
  refine lv_aload_n hx hb dL_set_0 rfl (lv_at hl 0 rfl) ?_
  refine lv_iload_n hx hb dL_set_1 rfl (lv_at hl 1 rfl) ?_
  refine lv_iload_n hx hb dL_set_2 rfl (lv_at hl 2 rfl) ?_
  refine vx_calli (vx_runV (As := [.int v, .int x]) (rest := []) ⟨hx, hb, hml, hown, hts⟩ (c_X3_set_t1 l D T ad I R hlt v x h1) (cwV 2 hts gL_set_X3_set rfl rfl rfl (by decide +kernel) ⟨Nat.le_of_ble_eq_true rfl, Nat.le_of_ble_eq_true rfl⟩) ⟨XR.blind, va_recv hK hP (ci := 3) (q0 := 0) rfl cw_0, XR.pre hP hK hN hXU hXZ hS rfl⟩ rfl rfl hl.1 rfl (lv_room (Nat.le_of_ble_eq_true rfl)) dL_set_3 ⟨Nat.le_of_ble_eq_true rfl, Nat.le_of_ble_eq_true rfl⟩) hS (fun q _ h => h.elim) (fun q h => h.elim) (fun q _ h => h.elim) (fun E ce q9 u t H1 locs1 ht hal _ hE hz hk hS1 hce hcv hcl => ?_) (fun r u t H1 locs1 _ _ hf _ _ _ _ => hf.elim)
  obtain rfl : E = "java/lang/IndexOutOfBoundsException" := hE
  refine vx_catch (name := "java/lang/IndexOutOfBoundsException") hown [] ⟨0, 7, 10, 15⟩ [⟨0, 7, 15, 17⟩] ((vx_table (x := yL_set) B (hts _ List.mem_cons_self)).trans rfl) (fun z hz9 => absurd hz9 List.not_mem_nil) (by decide) (by decide) (hts (.classLink RL 15 "java/lang/IndexOutOfBoundsException") (by decide +kernel)) (va_Nw.use rfl (hXU.1 _ (List.mem_of_getElem? (i := 3) rfl))) hce hcv hcl ?_
  refine lv_astore (lv' := [(4, .ref q9), (0, .ref (ad 0)), (1, .int v), (2, .int x)]) hx hb dL_set_10 hl (by decide) rfl (fun ls hl => ?_)
  refine lv_bipush (v := (-31)) hx hb dL_set_12 (by decide) ?_
  exact W.iret (v := (-31)) hx hb hr (fun t ht hW => ⟨⟨(-31), (), rfl, rfl, trivial⟩, hS1.F ht⟩) hS1.2.2 dL_set_14
set_option maxHeartbeats 4000000 in
set_option maxRecDepth 100000 in
theorem h_set_t2 (l : Launch) (D : va_G) (T : Nat → ClassId) (ad : Nat → Nat) (I : Nat → Int32) (R : Nat → Nat → Int32) (hlt : l.stackTraces = false) (k : Nat) (x : Int32) (hk : k < 8) (h1 : outI x (-99) 99 = 1) : Met l yL_set wsL_set ({ frames := 7, cells := 1, slots := 6, locals := 105 }) (va_Pc [.ref (ad 0), .int (nI k), .int x] (XN D T ad I R)) (RqI (-32)) 1 6 (fun _ => False) := by
  refine metH_ofW (cc := cL_set) (maxL := 5) (ret := some .int) (by decide) rfl ?_
  intro p e s m args_ below meth c s₁ B hml hv
  obtain ⟨rfl, ⟨⟨hP, hK, hN⟩, hXU, hXZ⟩, hNc⟩ := hv
  have hx := B.exec
  have hb := B.bytes
  have hr := B.returns
  have hts := atoms_spec (ws := wsL_set) B.pre
  have hown : s.vm.findClass RL = some m.cls := findClass_of_methodNamed B.named
  have hlocks := B.notSynchronized
  have hS : va_S (fun _ => False) s.heap s.heap [] := va_S.rf
  have hl := lv_entry ([.ref (ad 0), .int (nI k), .int x]) (n := 5) (Nat.le_of_ble_eq_true rfl)
  rw [lg_entry_eq]
  generalize (lg_sl ([.ref (ad 0), .int (nI k), .int x]) ++ List.replicate (5 - (lg_sl ([.ref (ad 0), .int (nI k), .int x])).length) Slot.unset).toArray = ls at hl ⊢
  have hl : lv_has ls 5 [(0, .ref (ad 0)), (1, .int (nI k)), (2, .int x)] := hl
  refine lv_aload_n hx hb dL_set_0 rfl (lv_at hl 0 rfl) ?_
  refine lv_iload_n hx hb dL_set_1 rfl (lv_at hl 1 rfl) ?_
  refine lv_iload_n hx hb dL_set_2 rfl (lv_at hl 2 rfl) ?_
  refine vx_calli (vx_runV (As := [.int (nI k), .int x]) (rest := []) ⟨hx, hb, hml, hown, hts⟩ (c_X3_set_t2 l D T ad I R hlt k x hk h1) (cwV 2 hts gL_set_X3_set rfl rfl rfl (by decide +kernel) ⟨Nat.le_of_ble_eq_true rfl, Nat.le_of_ble_eq_true rfl⟩) ⟨XR.blind, va_recv hK hP (ci := 3) (q0 := 0) rfl cw_0, XR.pre hP hK hN hXU hXZ hS rfl⟩ rfl rfl hl.1 rfl (lv_room (Nat.le_of_ble_eq_true rfl)) dL_set_3 ⟨Nat.le_of_ble_eq_true rfl, Nat.le_of_ble_eq_true rfl⟩) hS (fun q _ h => h.elim) (fun q h => h.elim) (fun q _ h => h.elim) (fun E ce q9 u t H1 locs1 ht hal _ hE hz hk hS1 hce hcv hcl => ?_) (fun r u t H1 locs1 _ _ hf _ _ _ _ => hf.elim)
  obtain rfl : E = "java/lang/IllegalArgumentException" := hE
  refine vx_catch (name := "java/lang/IllegalArgumentException") hown [⟨0, 7, 10, 15⟩] ⟨0, 7, 15, 17⟩ [] ((vx_table (x := yL_set) B (hts _ List.mem_cons_self)).trans rfl) (fun z hz9 => by rcases List.mem_singleton.mp hz9 with rfl; exact Or.inr ⟨by decide, "java/lang/IndexOutOfBoundsException", hts (.classLink RL 15 "java/lang/IndexOutOfBoundsException") (by decide +kernel), hNc.1⟩) (by decide) (by decide) (hts (.classLink RL 17 "java/lang/IllegalArgumentException") (by decide +kernel)) (va_Nw.use rfl (hXU.1 _ (List.mem_of_getElem? (i := 4) rfl))) hce hcv hcl ?_
  refine lv_astore (lv' := [(4, .ref q9), (0, .ref (ad 0)), (1, .int (nI k)), (2, .int x)]) hx hb dL_set_15 hl (by decide) rfl (fun ls hl => ?_)
  refine lv_bipush (v := (-32)) hx hb dL_set_17 (by decide) ?_
  exact W.iret (v := (-32)) hx hb hr (fun t ht hW => ⟨⟨(-32), (), rfl, rfl, trivial⟩, hS1.F ht⟩) hS1.2.2 dL_set_19
set_option maxHeartbeats 4000000 in
set_option maxRecDepth 100000 in
theorem h_point_t1 (l : Launch) (D : va_G) (T : Nat → ClassId) (ad : Nat → Nat) (I : Nat → Int32) (R : Nat → Nat → Int32) (hlt : l.stackTraces = false) (v : Int32) (x : Int32) (h1 : outI v 0 7 = 1) : Met l yL_point wsL_point ({ frames := 7, cells := 1, slots := 6, locals := 105 }) (va_Pc [.ref (ad 0), .int v, .int x] (XN D T ad I R)) (RqI (-31)) 1 6 (fun _ => False) := by
  refine metH_ofW (cc := cL_point) (maxL := 5) (ret := some .int) (by decide) rfl ?_
  intro p e s m args_ below meth c s₁ B hml hv
  obtain ⟨rfl, ⟨⟨hP, hK, hN⟩, hXU, hXZ⟩, hNc⟩ := hv
  have hx := B.exec
  have hb := B.bytes
  have hr := B.returns
  have hts := atoms_spec (ws := wsL_point) B.pre
  have hown : s.vm.findClass RL = some m.cls := findClass_of_methodNamed B.named
  have hlocks := B.notSynchronized
  have hS : va_S (fun _ => False) s.heap s.heap [] := va_S.rf
  have hl := lv_entry ([.ref (ad 0), .int v, .int x]) (n := 5) (Nat.le_of_ble_eq_true rfl)
  rw [lg_entry_eq]
  generalize (lg_sl ([.ref (ad 0), .int v, .int x]) ++ List.replicate (5 - (lg_sl ([.ref (ad 0), .int v, .int x])).length) Slot.unset).toArray = ls at hl ⊢
  have hl : lv_has ls 5 [(0, .ref (ad 0)), (1, .int v), (2, .int x)] := hl
  refine lv_aload_n hx hb dL_point_0 rfl (lv_at hl 0 rfl) ?_
  refine lv_iload_n hx hb dL_point_1 rfl (lv_at hl 1 rfl) ?_
  refine lv_iload_n hx hb dL_point_2 rfl (lv_at hl 2 rfl) ?_
  refine vx_calli (vx_runV (As := [.int v, .int x]) (rest := []) ⟨hx, hb, hml, hown, hts⟩ (c_X3_point_t1 l D T ad I R hlt v x h1) (cwV 2 hts gL_point_X3_point rfl rfl rfl (by decide +kernel) ⟨Nat.le_of_ble_eq_true rfl, Nat.le_of_ble_eq_true rfl⟩) ⟨XR.blind, va_recv hK hP (ci := 3) (q0 := 0) rfl cw_0, XR.pre hP hK hN hXU hXZ hS rfl⟩ rfl rfl hl.1 rfl (lv_room (Nat.le_of_ble_eq_true rfl)) dL_point_3 ⟨Nat.le_of_ble_eq_true rfl, Nat.le_of_ble_eq_true rfl⟩) hS (fun q _ h => h.elim) (fun q h => h.elim) (fun q _ h => h.elim) (fun E ce q9 u t H1 locs1 ht hal _ hE hz hk hS1 hce hcv hcl => ?_) (fun r u t H1 locs1 _ _ hf _ _ _ _ => hf.elim)
  obtain rfl : E = "java/lang/IndexOutOfBoundsException" := hE
  refine vx_catch (name := "java/lang/IndexOutOfBoundsException") hown [] ⟨0, 7, 10, 15⟩ [⟨0, 7, 15, 17⟩] ((vx_table (x := yL_point) B (hts _ List.mem_cons_self)).trans rfl) (fun z hz9 => absurd hz9 List.not_mem_nil) (by decide) (by decide) (hts (.classLink RL 15 "java/lang/IndexOutOfBoundsException") (by decide +kernel)) (va_Nw.use rfl (hXU.1 _ (List.mem_of_getElem? (i := 3) rfl))) hce hcv hcl ?_
  refine lv_astore (lv' := [(4, .ref q9), (0, .ref (ad 0)), (1, .int v), (2, .int x)]) hx hb dL_point_10 hl (by decide) rfl (fun ls hl => ?_)
  refine lv_bipush (v := (-31)) hx hb dL_point_12 (by decide) ?_
  exact W.iret (v := (-31)) hx hb hr (fun t ht hW => ⟨⟨(-31), (), rfl, rfl, trivial⟩, hS1.F ht⟩) hS1.2.2 dL_point_14
set_option maxHeartbeats 4000000 in
set_option maxRecDepth 100000 in
theorem h_point_t2 (l : Launch) (D : va_G) (T : Nat → ClassId) (ad : Nat → Nat) (I : Nat → Int32) (R : Nat → Nat → Int32) (hlt : l.stackTraces = false) (k : Nat) (x : Int32) (hk : k < 8) (h1 : outI x (-9999) 9999 = 1) : Met l yL_point wsL_point ({ frames := 7, cells := 1, slots := 6, locals := 105 }) (va_Pc [.ref (ad 0), .int (nI k), .int x] (XN D T ad I R)) (RqI (-32)) 1 6 (fun _ => False) := by
  refine metH_ofW (cc := cL_point) (maxL := 5) (ret := some .int) (by decide) rfl ?_
  intro p e s m args_ below meth c s₁ B hml hv
  obtain ⟨rfl, ⟨⟨hP, hK, hN⟩, hXU, hXZ⟩, hNc⟩ := hv
  have hx := B.exec
  have hb := B.bytes
  have hr := B.returns
  have hts := atoms_spec (ws := wsL_point) B.pre
  have hown : s.vm.findClass RL = some m.cls := findClass_of_methodNamed B.named
  have hlocks := B.notSynchronized
  have hS : va_S (fun _ => False) s.heap s.heap [] := va_S.rf
  have hl := lv_entry ([.ref (ad 0), .int (nI k), .int x]) (n := 5) (Nat.le_of_ble_eq_true rfl)
  rw [lg_entry_eq]
  generalize (lg_sl ([.ref (ad 0), .int (nI k), .int x]) ++ List.replicate (5 - (lg_sl ([.ref (ad 0), .int (nI k), .int x])).length) Slot.unset).toArray = ls at hl ⊢
  have hl : lv_has ls 5 [(0, .ref (ad 0)), (1, .int (nI k)), (2, .int x)] := hl
  refine lv_aload_n hx hb dL_point_0 rfl (lv_at hl 0 rfl) ?_
  refine lv_iload_n hx hb dL_point_1 rfl (lv_at hl 1 rfl) ?_
  refine lv_iload_n hx hb dL_point_2 rfl (lv_at hl 2 rfl) ?_
  refine vx_calli (vx_runV (As := [.int (nI k), .int x]) (rest := []) ⟨hx, hb, hml, hown, hts⟩ (c_X3_point_t2 l D T ad I R hlt k x hk h1) (cwV 2 hts gL_point_X3_point rfl rfl rfl (by decide +kernel) ⟨Nat.le_of_ble_eq_true rfl, Nat.le_of_ble_eq_true rfl⟩) ⟨XR.blind, va_recv hK hP (ci := 3) (q0 := 0) rfl cw_0, XR.pre hP hK hN hXU hXZ hS rfl⟩ rfl rfl hl.1 rfl (lv_room (Nat.le_of_ble_eq_true rfl)) dL_point_3 ⟨Nat.le_of_ble_eq_true rfl, Nat.le_of_ble_eq_true rfl⟩) hS (fun q _ h => h.elim) (fun q h => h.elim) (fun q _ h => h.elim) (fun E ce q9 u t H1 locs1 ht hal _ hE hz hk hS1 hce hcv hcl => ?_) (fun r u t H1 locs1 _ _ hf _ _ _ _ => hf.elim)
  obtain rfl : E = "java/lang/IllegalArgumentException" := hE
  refine vx_catch (name := "java/lang/IllegalArgumentException") hown [⟨0, 7, 10, 15⟩] ⟨0, 7, 15, 17⟩ [] ((vx_table (x := yL_point) B (hts _ List.mem_cons_self)).trans rfl) (fun z hz9 => by rcases List.mem_singleton.mp hz9 with rfl; exact Or.inr ⟨by decide, "java/lang/IndexOutOfBoundsException", hts (.classLink RL 15 "java/lang/IndexOutOfBoundsException") (by decide +kernel), hNc.1⟩) (by decide) (by decide) (hts (.classLink RL 17 "java/lang/IllegalArgumentException") (by decide +kernel)) (va_Nw.use rfl (hXU.1 _ (List.mem_of_getElem? (i := 4) rfl))) hce hcv hcl ?_
  refine lv_astore (lv' := [(4, .ref q9), (0, .ref (ad 0)), (1, .int (nI k)), (2, .int x)]) hx hb dL_point_15 hl (by decide) rfl (fun ls hl => ?_)
  refine lv_bipush (v := (-32)) hx hb dL_point_17 (by decide) ?_
  exact W.iret (v := (-32)) hx hb hr (fun t ht hW => ⟨⟨(-32), (), rfl, rfl, trivial⟩, hS1.F ht⟩) hS1.2.2 dL_point_19
set_option maxHeartbeats 4000000 in
set_option maxRecDepth 100000 in
theorem h_lose_t1 (l : Launch) (D : va_G) (T : Nat → ClassId) (ad : Nat → Nat) (I : Nat → Int32) (R : Nat → Nat → Int32) (hlt : l.stackTraces = false) (v : Int32) (h1 : outI v 0 7 = 1) : Met l yL_lose wsL_lose ({ frames := 7, cells := 1, slots := 6, locals := 103 }) (va_Pc [.ref (ad 0), .int v] (XN D T ad I R)) (RqI (-31)) 1 6 (fun _ => False) := by
  refine metH_ofW (cc := cL_lose) (maxL := 4) (ret := some .int) (by decide) rfl ?_
  intro p e s m args_ below meth c s₁ B hml hv
  obtain ⟨rfl, ⟨⟨hP, hK, hN⟩, hXU, hXZ⟩, hNc⟩ := hv
  have hx := B.exec
  have hb := B.bytes
  have hr := B.returns
  have hts := atoms_spec (ws := wsL_lose) B.pre
  have hown : s.vm.findClass RL = some m.cls := findClass_of_methodNamed B.named
  have hlocks := B.notSynchronized
  have hS : va_S (fun _ => False) s.heap s.heap [] := va_S.rf
  have hl := lv_entry ([.ref (ad 0), .int v]) (n := 4) (Nat.le_of_ble_eq_true rfl)
  rw [lg_entry_eq]
  generalize (lg_sl ([.ref (ad 0), .int v]) ++ List.replicate (4 - (lg_sl ([.ref (ad 0), .int v])).length) Slot.unset).toArray = ls at hl ⊢
  have hl : lv_has ls 4 [(0, .ref (ad 0)), (1, .int v)] := hl
  refine lv_aload_n hx hb dL_lose_0 rfl (lv_at hl 0 rfl) ?_
  refine lv_iload_n hx hb dL_lose_1 rfl (lv_at hl 1 rfl) ?_
  refine vx_calli (vx_runV (As := [.int v]) (rest := []) ⟨hx, hb, hml, hown, hts⟩ (c_X3_lose_t1 l D T ad I R hlt v h1) (cwV 1 hts gL_lose_X3_lose rfl rfl rfl (by decide +kernel) ⟨Nat.le_of_ble_eq_true rfl, Nat.le_of_ble_eq_true rfl⟩) ⟨XR.blind, va_recv hK hP (ci := 3) (q0 := 0) rfl cw_0, XR.pre hP hK hN hXU hXZ hS rfl⟩ rfl rfl hl.1 rfl (lv_room (Nat.le_of_ble_eq_true rfl)) dL_lose_2 ⟨Nat.le_of_ble_eq_true rfl, Nat.le_of_ble_eq_true rfl⟩) hS (fun q _ h => h.elim) (fun q h => h.elim) (fun q _ h => h.elim) (fun E ce q9 u t H1 locs1 ht hal _ hE hz hk hS1 hce hcv hcl => ?_) (fun r u t H1 locs1 _ _ hf _ _ _ _ => hf.elim)
  obtain rfl : E = "java/lang/IndexOutOfBoundsException" := hE
  refine vx_catch (name := "java/lang/IndexOutOfBoundsException") hown [] ⟨0, 6, 9, 15⟩ [] ((vx_table (x := yL_lose) B (hts _ List.mem_cons_self)).trans rfl) (fun z hz9 => absurd hz9 List.not_mem_nil) (by decide) (by decide) (hts (.classLink RL 15 "java/lang/IndexOutOfBoundsException") (by decide +kernel)) (va_Nw.use rfl (hXU.1 _ (List.mem_of_getElem? (i := 3) rfl))) hce hcv hcl ?_
  refine lv_astore_n (lv' := [(3, .ref q9), (0, .ref (ad 0)), (1, .int v)]) hx hb dL_lose_9 rfl hl (by decide) rfl (fun ls hl => ?_)
  refine lv_bipush (v := (-31)) hx hb dL_lose_10 (by decide) ?_
  exact W.iret (v := (-31)) hx hb hr (fun t ht hW => ⟨⟨(-31), (), rfl, rfl, trivial⟩, hS1.F ht⟩) hS1.2.2 dL_lose_12
set_option maxHeartbeats 4000000 in
set_option maxRecDepth 100000 in
theorem h_turn_t1 (l : Launch) (D : va_G) (T : Nat → ClassId) (ad : Nat → Nat) (I : Nat → Int32) (R : Nat → Nat → Int32) (hlt : l.stackTraces = false) (v : Int32) (h1 : outI v 0 7 = 1) : Met l yL_turn wsL_turn ({ frames := 7, cells := 1, slots := 6, locals := 105 }) (va_Pc [.ref (ad 0), .int v] (XN D T ad I R)) (RqI (-32)) 1 6 (fun _ => False) := by
  refine metH_ofW (cc := cL_turn) (maxL := 4) (ret := some .int) (by decide) rfl ?_
  intro p e s m args_ below meth c s₁ B hml hv
  obtain ⟨rfl, ⟨⟨hP, hK, hN⟩, hXU, hXZ⟩, hNc⟩ := hv
  have hx := B.exec
  have hb := B.bytes
  have hr := B.returns
  have hts := atoms_spec (ws := wsL_turn) B.pre
  have hown : s.vm.findClass RL = some m.cls := findClass_of_methodNamed B.named
  have hlocks := B.notSynchronized
  have hS : va_S (fun _ => False) s.heap s.heap [] := va_S.rf
  have hl := lv_entry ([.ref (ad 0), .int v]) (n := 4) (Nat.le_of_ble_eq_true rfl)
  rw [lg_entry_eq]
  generalize (lg_sl ([.ref (ad 0), .int v]) ++ List.replicate (4 - (lg_sl ([.ref (ad 0), .int v])).length) Slot.unset).toArray = ls at hl ⊢
  have hl : lv_has ls 4 [(0, .ref (ad 0)), (1, .int v)] := hl
  refine lv_aload_n hx hb dL_turn_0 rfl (lv_at hl 0 rfl) ?_
  refine lv_iload_n hx hb dL_turn_1 rfl (lv_at hl 1 rfl) ?_
  refine vx_calli (vx_runV (As := [.int v]) (rest := []) ⟨hx, hb, hml, hown, hts⟩ (c_X3_turn_t1 l D T ad I R hlt v h1) (cwV 1 hts gL_turn_X3_turn rfl rfl rfl (by decide +kernel) ⟨Nat.le_of_ble_eq_true rfl, Nat.le_of_ble_eq_true rfl⟩) ⟨XR.blind, va_recv hK hP (ci := 3) (q0 := 0) rfl cw_0, XR.pre hP hK hN hXU hXZ hS rfl⟩ rfl rfl hl.1 rfl (lv_room (Nat.le_of_ble_eq_true rfl)) dL_turn_2 ⟨Nat.le_of_ble_eq_true rfl, Nat.le_of_ble_eq_true rfl⟩) hS (fun q _ h => h.elim) (fun q h => h.elim) (fun q _ h => h.elim) (fun E ce q9 u t H1 locs1 ht hal _ hE hz hk hS1 hce hcv hcl => ?_) (fun r u t H1 locs1 _ _ hf _ _ _ _ => hf.elim)
  obtain rfl : E = "java/lang/IllegalArgumentException" := hE
  refine vx_catch (name := "java/lang/IllegalArgumentException") hown [] ⟨0, 6, 9, 17⟩ [] ((vx_table (x := yL_turn) B (hts _ List.mem_cons_self)).trans rfl) (fun z hz9 => absurd hz9 List.not_mem_nil) (by decide) (by decide) (hts (.classLink RL 17 "java/lang/IllegalArgumentException") (by decide +kernel)) (va_Nw.use rfl (hXU.1 _ (List.mem_of_getElem? (i := 4) rfl))) hce hcv hcl ?_
  refine lv_astore_n (lv' := [(3, .ref q9), (0, .ref (ad 0)), (1, .int v)]) hx hb dL_turn_9 rfl hl (by decide) rfl (fun ls hl => ?_)
  refine lv_bipush (v := (-32)) hx hb dL_turn_10 (by decide) ?_
  exact W.iret (v := (-32)) hx hb hr (fun t ht hW => ⟨⟨(-32), (), rfl, rfl, trivial⟩, hS1.F ht⟩) hS1.2.2 dL_turn_12
set_option maxHeartbeats 4000000 in
set_option maxRecDepth 100000 in
theorem h_drop_t1 (l : Launch) (D : va_G) (T : Nat → ClassId) (ad : Nat → Nat) (I : Nat → Int32) (R : Nat → Nat → Int32) (hlt : l.stackTraces = false) (x : Int32) (h1 : outI x 1 99 = 1) : Met l yL_drop wsL_drop ({ frames := 7, cells := 1, slots := 6, locals := 105 }) (va_Pc [.ref (ad 0), .int x] (XN D T ad I R)) (RqI (-32)) 1 6 (fun _ => False) := by
  refine metH_ofW (cc := cL_drop) (maxL := 4) (ret := some .int) (by decide) rfl ?_
  intro p e s m args_ below meth c s₁ B hml hv
  obtain ⟨rfl, ⟨⟨hP, hK, hN⟩, hXU, hXZ⟩, hNc⟩ := hv
  have hx := B.exec
  have hb := B.bytes
  have hr := B.returns
  have hts := atoms_spec (ws := wsL_drop) B.pre
  have hown : s.vm.findClass RL = some m.cls := findClass_of_methodNamed B.named
  have hlocks := B.notSynchronized
  have hS : va_S (fun _ => False) s.heap s.heap [] := va_S.rf
  have hl := lv_entry ([.ref (ad 0), .int x]) (n := 4) (Nat.le_of_ble_eq_true rfl)
  rw [lg_entry_eq]
  generalize (lg_sl ([.ref (ad 0), .int x]) ++ List.replicate (4 - (lg_sl ([.ref (ad 0), .int x])).length) Slot.unset).toArray = ls at hl ⊢
  have hl : lv_has ls 4 [(0, .ref (ad 0)), (1, .int x)] := hl
  refine lv_aload_n hx hb dL_drop_0 rfl (lv_at hl 0 rfl) ?_
  refine lv_iload_n hx hb dL_drop_1 rfl (lv_at hl 1 rfl) ?_
  refine vx_calli (vx_runV (As := [.int x]) (rest := []) ⟨hx, hb, hml, hown, hts⟩ (c_X3_drop_t1 l D T ad I R hlt x h1) (cwV 1 hts gL_drop_X3_drop rfl rfl rfl (by decide +kernel) ⟨Nat.le_of_ble_eq_true rfl, Nat.le_of_ble_eq_true rfl⟩) ⟨XR.blind, va_recv hK hP (ci := 3) (q0 := 0) rfl cw_0, XR.pre hP hK hN hXU hXZ hS rfl⟩ rfl rfl hl.1 rfl (lv_room (Nat.le_of_ble_eq_true rfl)) dL_drop_2 ⟨Nat.le_of_ble_eq_true rfl, Nat.le_of_ble_eq_true rfl⟩) hS (fun q _ h => h.elim) (fun q h => h.elim) (fun q _ h => h.elim) (fun E ce q9 u t H1 locs1 ht hal _ hE hz hk hS1 hce hcv hcl => ?_) (fun r u t H1 locs1 _ _ hf _ _ _ _ => hf.elim)
  obtain rfl : E = "java/lang/IllegalArgumentException" := hE
  refine vx_catch (name := "java/lang/IllegalArgumentException") hown [] ⟨0, 6, 9, 17⟩ [] ((vx_table (x := yL_drop) B (hts _ List.mem_cons_self)).trans rfl) (fun z hz9 => absurd hz9 List.not_mem_nil) (by decide) (by decide) (hts (.classLink RL 17 "java/lang/IllegalArgumentException") (by decide +kernel)) (va_Nw.use rfl (hXU.1 _ (List.mem_of_getElem? (i := 4) rfl))) hce hcv hcl ?_
  refine lv_astore_n (lv' := [(3, .ref q9), (0, .ref (ad 0)), (1, .int x)]) hx hb dL_drop_9 rfl hl (by decide) rfl (fun ls hl => ?_)
  refine lv_bipush (v := (-32)) hx hb dL_drop_10 (by decide) ?_
  exact W.iret (v := (-32)) hx hb hr (fun t ht hW => ⟨⟨(-32), (), rfl, rfl, trivial⟩, hS1.F ht⟩) hS1.2.2 dL_drop_12
set_option maxHeartbeats 4000000 in
set_option maxRecDepth 100000 in
theorem h_undo_t1 (l : Launch) (D : va_G) (T : Nat → ClassId) (ad : Nat → Nat) (I : Nat → Int32) (R : Nat → Nat → Int32) (hlt : l.stackTraces = false) (hI2 : I 2 = 0) : Met l yL_undo wsL_undo ({ frames := 7, cells := 1, slots := 6, locals := 102 }) (va_Pc [.ref (ad 0)] (XN D T ad I R)) (RqI (-33)) 1 6 (fun _ => False) := by
  refine metH_ofW (cc := cL_undo) (maxL := 3) (ret := some .int) (by decide) rfl ?_
  intro p e s m args_ below meth c s₁ B hml hv
  obtain ⟨rfl, ⟨⟨hP, hK, hN⟩, hXU, hXZ⟩, hNc⟩ := hv
  have hx := B.exec
  have hb := B.bytes
  have hr := B.returns
  have hts := atoms_spec (ws := wsL_undo) B.pre
  have hown : s.vm.findClass RL = some m.cls := findClass_of_methodNamed B.named
  have hlocks := B.notSynchronized
  have hS : va_S (fun _ => False) s.heap s.heap [] := va_S.rf
  have hl := lv_entry ([.ref (ad 0)]) (n := 3) (Nat.le_of_ble_eq_true rfl)
  rw [lg_entry_eq]
  generalize (lg_sl ([.ref (ad 0)]) ++ List.replicate (3 - (lg_sl ([.ref (ad 0)])).length) Slot.unset).toArray = ls at hl ⊢
  have hl : lv_has ls 3 [(0, .ref (ad 0))] := hl
  refine lv_aload_n hx hb dL_undo_0 rfl (lv_at hl 0 rfl) ?_
  refine vx_calli (vx_runV (As := []) (rest := []) ⟨hx, hb, hml, hown, hts⟩ (c_X3_undo_t1 l D T ad I R hlt hI2) (cwV 0 hts gL_undo_X3_undo rfl rfl rfl (by decide +kernel) ⟨Nat.le_of_ble_eq_true rfl, Nat.le_of_ble_eq_true rfl⟩) ⟨XR.blind, va_recv hK hP (ci := 3) (q0 := 0) rfl cw_0, XR.pre hP hK hN hXU hXZ hS rfl⟩ rfl rfl hl.1 rfl (lv_room (Nat.le_of_ble_eq_true rfl)) dL_undo_1 ⟨Nat.le_of_ble_eq_true rfl, Nat.le_of_ble_eq_true rfl⟩) hS (fun q _ h => h.elim) (fun q h => h.elim) (fun q _ h => h.elim) (fun E ce q9 u t H1 locs1 ht hal _ hE hz hk hS1 hce hcv hcl => ?_) (fun r u t H1 locs1 _ _ hf _ _ _ _ => hf.elim)
  obtain rfl : E = "java/lang/IllegalStateException" := hE
  refine vx_catch (name := "java/lang/IllegalStateException") hown [] ⟨0, 5, 8, 36⟩ [] ((vx_table (x := yL_undo) B (hts _ List.mem_cons_self)).trans rfl) (fun z hz9 => absurd hz9 List.not_mem_nil) (by decide) (by decide) (hts (.classLink RL 36 "java/lang/IllegalStateException") (by decide +kernel)) (va_Nw.use rfl (hXU.1 _ (List.mem_of_getElem? (i := 5) rfl))) hce hcv hcl ?_
  refine lv_astore_n (lv' := [(2, .ref q9), (0, .ref (ad 0))]) hx hb dL_undo_8 rfl hl (by decide) rfl (fun ls hl => ?_)
  refine lv_bipush (v := (-33)) hx hb dL_undo_9 (by decide) ?_
  exact W.iret (v := (-33)) hx hb hr (fun t ht hW => ⟨⟨(-33), (), rfl, rfl, trivial⟩, hS1.F ht⟩) hS1.2.2 dL_undo_11
set_option maxHeartbeats 4000000 in
set_option maxRecDepth 100000 in
theorem h_wheelOf_t1 (l : Launch) (D : va_G) (T : Nat → ClassId) (ad : Nat → Nat) (I : Nat → Int32) (R : Nat → Nat → Int32) (hlt : l.stackTraces = false) (v : Int32) (x : Int32) (h1 : outI v 0 7 = 1) : Met l yL_wheelOf wsL_wheelOf ({ frames := 7, cells := 1, slots := 6, locals := 104 }) (va_Pc [.ref (ad 0), .int v, .int x] (XN D T ad I R)) (RqI (-31)) 1 6 (fun _ => False) := by
  refine metH_ofW (cc := cL_wheelOf) (maxL := 5) (ret := some .int) (by decide) rfl ?_
  intro p e s m args_ below meth c s₁ B hml hv
  obtain ⟨rfl, ⟨⟨hP, hK, hN⟩, hXU, hXZ⟩, hNc⟩ := hv
  have hx := B.exec
  have hb := B.bytes
  have hr := B.returns
  have hts := atoms_spec (ws := wsL_wheelOf) B.pre
  have hown : s.vm.findClass RL = some m.cls := findClass_of_methodNamed B.named
  have hlocks := B.notSynchronized
  have hS : va_S (fun _ => False) s.heap s.heap [] := va_S.rf
  have hl := lv_entry ([.ref (ad 0), .int v, .int x]) (n := 5) (Nat.le_of_ble_eq_true rfl)
  rw [lg_entry_eq]
  generalize (lg_sl ([.ref (ad 0), .int v, .int x]) ++ List.replicate (5 - (lg_sl ([.ref (ad 0), .int v, .int x])).length) Slot.unset).toArray = ls at hl ⊢
  have hl : lv_has ls 5 [(0, .ref (ad 0)), (1, .int v), (2, .int x)] := hl
  refine lv_aload_n hx hb dL_wheelOf_0 rfl (lv_at hl 0 rfl) ?_
  refine lv_iload_n hx hb dL_wheelOf_1 rfl (lv_at hl 1 rfl) ?_
  refine lv_iload_n hx hb dL_wheelOf_2 rfl (lv_at hl 2 rfl) ?_
  refine vx_calli (vx_runV (As := [.int v, .int x]) (rest := []) ⟨hx, hb, hml, hown, hts⟩ (c_X3_wheelOf_t1 l D T ad I R hlt v x h1) (cwV 2 hts gL_wheelOf_X3_wheelOf rfl rfl rfl (by decide +kernel) ⟨Nat.le_of_ble_eq_true rfl, Nat.le_of_ble_eq_true rfl⟩) ⟨XR.blind, va_recv hK hP (ci := 3) (q0 := 0) rfl cw_0, XR.pre hP hK hN hXU hXZ hS rfl⟩ rfl rfl hl.1 rfl (lv_room (Nat.le_of_ble_eq_true rfl)) dL_wheelOf_3 ⟨Nat.le_of_ble_eq_true rfl, Nat.le_of_ble_eq_true rfl⟩) hS (fun q _ h => h.elim) (fun q h => h.elim) (fun q _ h => h.elim) (fun E ce q9 u t H1 locs1 ht hal _ hE hz hk hS1 hce hcv hcl => ?_) (fun r u t H1 locs1 _ _ hf _ _ _ _ => hf.elim)
  obtain rfl : E = "java/lang/IndexOutOfBoundsException" := hE
  refine vx_catch (name := "java/lang/IndexOutOfBoundsException") hown [] ⟨0, 7, 10, 15⟩ [⟨0, 7, 15, 17⟩] ((vx_table (x := yL_wheelOf) B (hts _ List.mem_cons_self)).trans rfl) (fun z hz9 => absurd hz9 List.not_mem_nil) (by decide) (by decide) (hts (.classLink RL 15 "java/lang/IndexOutOfBoundsException") (by decide +kernel)) (va_Nw.use rfl (hXU.1 _ (List.mem_of_getElem? (i := 3) rfl))) hce hcv hcl ?_
  refine lv_astore (lv' := [(4, .ref q9), (0, .ref (ad 0)), (1, .int v), (2, .int x)]) hx hb dL_wheelOf_10 hl (by decide) rfl (fun ls hl => ?_)
  refine lv_bipush (v := (-31)) hx hb dL_wheelOf_12 (by decide) ?_
  exact W.iret (v := (-31)) hx hb hr (fun t ht hW => ⟨⟨(-31), (), rfl, rfl, trivial⟩, hS1.F ht⟩) hS1.2.2 dL_wheelOf_14
set_option maxHeartbeats 4000000 in
set_option maxRecDepth 100000 in
theorem h_wheelOf_t2 (l : Launch) (D : va_G) (T : Nat → ClassId) (ad : Nat → Nat) (I : Nat → Int32) (R : Nat → Nat → Int32) (hlt : l.stackTraces = false) (k : Nat) (x : Int32) (hk : k < 8) (h1 : outI x 0 3 = 1) : Met l yL_wheelOf wsL_wheelOf ({ frames := 7, cells := 1, slots := 6, locals := 104 }) (va_Pc [.ref (ad 0), .int (nI k), .int x] (XN D T ad I R)) (RqI (-32)) 1 6 (fun _ => False) := by
  refine metH_ofW (cc := cL_wheelOf) (maxL := 5) (ret := some .int) (by decide) rfl ?_
  intro p e s m args_ below meth c s₁ B hml hv
  obtain ⟨rfl, ⟨⟨hP, hK, hN⟩, hXU, hXZ⟩, hNc⟩ := hv
  have hx := B.exec
  have hb := B.bytes
  have hr := B.returns
  have hts := atoms_spec (ws := wsL_wheelOf) B.pre
  have hown : s.vm.findClass RL = some m.cls := findClass_of_methodNamed B.named
  have hlocks := B.notSynchronized
  have hS : va_S (fun _ => False) s.heap s.heap [] := va_S.rf
  have hl := lv_entry ([.ref (ad 0), .int (nI k), .int x]) (n := 5) (Nat.le_of_ble_eq_true rfl)
  rw [lg_entry_eq]
  generalize (lg_sl ([.ref (ad 0), .int (nI k), .int x]) ++ List.replicate (5 - (lg_sl ([.ref (ad 0), .int (nI k), .int x])).length) Slot.unset).toArray = ls at hl ⊢
  have hl : lv_has ls 5 [(0, .ref (ad 0)), (1, .int (nI k)), (2, .int x)] := hl
  refine lv_aload_n hx hb dL_wheelOf_0 rfl (lv_at hl 0 rfl) ?_
  refine lv_iload_n hx hb dL_wheelOf_1 rfl (lv_at hl 1 rfl) ?_
  refine lv_iload_n hx hb dL_wheelOf_2 rfl (lv_at hl 2 rfl) ?_
  refine vx_calli (vx_runV (As := [.int (nI k), .int x]) (rest := []) ⟨hx, hb, hml, hown, hts⟩ (c_X3_wheelOf_t2 l D T ad I R hlt k x hk h1) (cwV 2 hts gL_wheelOf_X3_wheelOf rfl rfl rfl (by decide +kernel) ⟨Nat.le_of_ble_eq_true rfl, Nat.le_of_ble_eq_true rfl⟩) ⟨XR.blind, va_recv hK hP (ci := 3) (q0 := 0) rfl cw_0, XR.pre hP hK hN hXU hXZ hS rfl⟩ rfl rfl hl.1 rfl (lv_room (Nat.le_of_ble_eq_true rfl)) dL_wheelOf_3 ⟨Nat.le_of_ble_eq_true rfl, Nat.le_of_ble_eq_true rfl⟩) hS (fun q _ h => h.elim) (fun q h => h.elim) (fun q _ h => h.elim) (fun E ce q9 u t H1 locs1 ht hal _ hE hz hk hS1 hce hcv hcl => ?_) (fun r u t H1 locs1 _ _ hf _ _ _ _ => hf.elim)
  obtain rfl : E = "java/lang/IllegalArgumentException" := hE
  refine vx_catch (name := "java/lang/IllegalArgumentException") hown [⟨0, 7, 10, 15⟩] ⟨0, 7, 15, 17⟩ [] ((vx_table (x := yL_wheelOf) B (hts _ List.mem_cons_self)).trans rfl) (fun z hz9 => by rcases List.mem_singleton.mp hz9 with rfl; exact Or.inr ⟨by decide, "java/lang/IndexOutOfBoundsException", hts (.classLink RL 15 "java/lang/IndexOutOfBoundsException") (by decide +kernel), hNc.1⟩) (by decide) (by decide) (hts (.classLink RL 17 "java/lang/IllegalArgumentException") (by decide +kernel)) (va_Nw.use rfl (hXU.1 _ (List.mem_of_getElem? (i := 4) rfl))) hce hcv hcl ?_
  refine lv_astore (lv' := [(4, .ref q9), (0, .ref (ad 0)), (1, .int (nI k)), (2, .int x)]) hx hb dL_wheelOf_15 hl (by decide) rfl (fun ls hl => ?_)
  refine lv_bipush (v := (-32)) hx hb dL_wheelOf_17 (by decide) ?_
  exact W.iret (v := (-32)) hx hb hr (fun t ht hW => ⟨⟨(-32), (), rfl, rfl, trivial⟩, hS1.F ht⟩) hS1.2.2 dL_wheelOf_19
set_option maxHeartbeats 4000000 in
set_option maxRecDepth 100000 in
theorem h_trace_t1 (l : Launch) (D : va_G) (T : Nat → ClassId) (ad : Nat → Nat) (I : Nat → Int32) (R : Nat → Nat → Int32) (hlt : l.stackTraces = false) (v : Int32) (x : Int32) (h1 : outI v 0 7 = 1) : Met l yL_trace wsL_trace ({ frames := 7, cells := 1, slots := 6, locals := 104 }) (va_Pc [.ref (ad 0), .int v, .int x] (XN D T ad I R)) (RqI (-31)) 1 6 (fun _ => False) := by
  refine metH_ofW (cc := cL_trace) (maxL := 5) (ret := some .int) (by decide) rfl ?_
  intro p e s m args_ below meth c s₁ B hml hv
  obtain ⟨rfl, ⟨⟨hP, hK, hN⟩, hXU, hXZ⟩, hNc⟩ := hv
  have hx := B.exec
  have hb := B.bytes
  have hr := B.returns
  have hts := atoms_spec (ws := wsL_trace) B.pre
  have hown : s.vm.findClass RL = some m.cls := findClass_of_methodNamed B.named
  have hlocks := B.notSynchronized
  have hS : va_S (fun _ => False) s.heap s.heap [] := va_S.rf
  have hl := lv_entry ([.ref (ad 0), .int v, .int x]) (n := 5) (Nat.le_of_ble_eq_true rfl)
  rw [lg_entry_eq]
  generalize (lg_sl ([.ref (ad 0), .int v, .int x]) ++ List.replicate (5 - (lg_sl ([.ref (ad 0), .int v, .int x])).length) Slot.unset).toArray = ls at hl ⊢
  have hl : lv_has ls 5 [(0, .ref (ad 0)), (1, .int v), (2, .int x)] := hl
  refine lv_aload_n hx hb dL_trace_0 rfl (lv_at hl 0 rfl) ?_
  refine lv_iload_n hx hb dL_trace_1 rfl (lv_at hl 1 rfl) ?_
  refine lv_iload_n hx hb dL_trace_2 rfl (lv_at hl 2 rfl) ?_
  refine vx_calli (vx_runV (As := [.int v, .int x]) (rest := []) ⟨hx, hb, hml, hown, hts⟩ (c_X3_trace_t1 l D T ad I R hlt v x h1) (cwV 2 hts gL_trace_X3_trace rfl rfl rfl (by decide +kernel) ⟨Nat.le_of_ble_eq_true rfl, Nat.le_of_ble_eq_true rfl⟩) ⟨XR.blind, va_recv hK hP (ci := 3) (q0 := 0) rfl cw_0, XR.pre hP hK hN hXU hXZ hS rfl⟩ rfl rfl hl.1 rfl (lv_room (Nat.le_of_ble_eq_true rfl)) dL_trace_3 ⟨Nat.le_of_ble_eq_true rfl, Nat.le_of_ble_eq_true rfl⟩) hS (fun q _ h => h.elim) (fun q h => h.elim) (fun q _ h => h.elim) (fun E ce q9 u t H1 locs1 ht hal _ hE hz hk hS1 hce hcv hcl => ?_) (fun r u t H1 locs1 _ _ hf _ _ _ _ => hf.elim)
  obtain rfl : E = "java/lang/IndexOutOfBoundsException" := hE
  refine vx_catch (name := "java/lang/IndexOutOfBoundsException") hown [] ⟨0, 7, 10, 15⟩ [⟨0, 7, 15, 17⟩] ((vx_table (x := yL_trace) B (hts _ List.mem_cons_self)).trans rfl) (fun z hz9 => absurd hz9 List.not_mem_nil) (by decide) (by decide) (hts (.classLink RL 15 "java/lang/IndexOutOfBoundsException") (by decide +kernel)) (va_Nw.use rfl (hXU.1 _ (List.mem_of_getElem? (i := 3) rfl))) hce hcv hcl ?_
  refine lv_astore (lv' := [(4, .ref q9), (0, .ref (ad 0)), (1, .int v), (2, .int x)]) hx hb dL_trace_10 hl (by decide) rfl (fun ls hl => ?_)
  refine lv_bipush (v := (-31)) hx hb dL_trace_12 (by decide) ?_
  exact W.iret (v := (-31)) hx hb hr (fun t ht hW => ⟨⟨(-31), (), rfl, rfl, trivial⟩, hS1.F ht⟩) hS1.2.2 dL_trace_14
set_option maxHeartbeats 4000000 in
set_option maxRecDepth 100000 in
theorem h_trace_t2 (l : Launch) (D : va_G) (T : Nat → ClassId) (ad : Nat → Nat) (I : Nat → Int32) (R : Nat → Nat → Int32) (hlt : l.stackTraces = false) (k : Nat) (x : Int32) (hk : k < 8) (h1 : outI x 0 1 = 1) : Met l yL_trace wsL_trace ({ frames := 7, cells := 1, slots := 6, locals := 104 }) (va_Pc [.ref (ad 0), .int (nI k), .int x] (XN D T ad I R)) (RqI (-32)) 1 6 (fun _ => False) := by
  refine metH_ofW (cc := cL_trace) (maxL := 5) (ret := some .int) (by decide) rfl ?_
  intro p e s m args_ below meth c s₁ B hml hv
  obtain ⟨rfl, ⟨⟨hP, hK, hN⟩, hXU, hXZ⟩, hNc⟩ := hv
  have hx := B.exec
  have hb := B.bytes
  have hr := B.returns
  have hts := atoms_spec (ws := wsL_trace) B.pre
  have hown : s.vm.findClass RL = some m.cls := findClass_of_methodNamed B.named
  have hlocks := B.notSynchronized
  have hS : va_S (fun _ => False) s.heap s.heap [] := va_S.rf
  have hl := lv_entry ([.ref (ad 0), .int (nI k), .int x]) (n := 5) (Nat.le_of_ble_eq_true rfl)
  rw [lg_entry_eq]
  generalize (lg_sl ([.ref (ad 0), .int (nI k), .int x]) ++ List.replicate (5 - (lg_sl ([.ref (ad 0), .int (nI k), .int x])).length) Slot.unset).toArray = ls at hl ⊢
  have hl : lv_has ls 5 [(0, .ref (ad 0)), (1, .int (nI k)), (2, .int x)] := hl
  refine lv_aload_n hx hb dL_trace_0 rfl (lv_at hl 0 rfl) ?_
  refine lv_iload_n hx hb dL_trace_1 rfl (lv_at hl 1 rfl) ?_
  refine lv_iload_n hx hb dL_trace_2 rfl (lv_at hl 2 rfl) ?_
  refine vx_calli (vx_runV (As := [.int (nI k), .int x]) (rest := []) ⟨hx, hb, hml, hown, hts⟩ (c_X3_trace_t2 l D T ad I R hlt k x hk h1) (cwV 2 hts gL_trace_X3_trace rfl rfl rfl (by decide +kernel) ⟨Nat.le_of_ble_eq_true rfl, Nat.le_of_ble_eq_true rfl⟩) ⟨XR.blind, va_recv hK hP (ci := 3) (q0 := 0) rfl cw_0, XR.pre hP hK hN hXU hXZ hS rfl⟩ rfl rfl hl.1 rfl (lv_room (Nat.le_of_ble_eq_true rfl)) dL_trace_3 ⟨Nat.le_of_ble_eq_true rfl, Nat.le_of_ble_eq_true rfl⟩) hS (fun q _ h => h.elim) (fun q h => h.elim) (fun q _ h => h.elim) (fun E ce q9 u t H1 locs1 ht hal _ hE hz hk hS1 hce hcv hcl => ?_) (fun r u t H1 locs1 _ _ hf _ _ _ _ => hf.elim)
  obtain rfl : E = "java/lang/IllegalArgumentException" := hE
  refine vx_catch (name := "java/lang/IllegalArgumentException") hown [⟨0, 7, 10, 15⟩] ⟨0, 7, 15, 17⟩ [] ((vx_table (x := yL_trace) B (hts _ List.mem_cons_self)).trans rfl) (fun z hz9 => by rcases List.mem_singleton.mp hz9 with rfl; exact Or.inr ⟨by decide, "java/lang/IndexOutOfBoundsException", hts (.classLink RL 15 "java/lang/IndexOutOfBoundsException") (by decide +kernel), hNc.1⟩) (by decide) (by decide) (hts (.classLink RL 17 "java/lang/IllegalArgumentException") (by decide +kernel)) (va_Nw.use rfl (hXU.1 _ (List.mem_of_getElem? (i := 4) rfl))) hce hcv hcl ?_
  refine lv_astore (lv' := [(4, .ref q9), (0, .ref (ad 0)), (1, .int (nI k)), (2, .int x)]) hx hb dL_trace_15 hl (by decide) rfl (fun ls hl => ?_)
  refine lv_bipush (v := (-32)) hx hb dL_trace_17 (by decide) ?_
  exact W.iret (v := (-32)) hx hb hr (fun t ht hW => ⟨⟨(-32), (), rfl, rfl, trivial⟩, hS1.F ht⟩) hS1.2.2 dL_trace_19
set_option maxHeartbeats 4000000 in
set_option maxRecDepth 100000 in
theorem h_pointOf_t1 (l : Launch) (D : va_G) (T : Nat → ClassId) (ad : Nat → Nat) (I : Nat → Int32) (R : Nat → Nat → Int32) (hlt : l.stackTraces = false) (v : Int32) (x : Int32) (h1 : outI v 0 7 = 1) : Met l yL_pointOf wsL_pointOf ({ frames := 7, cells := 1, slots := 6, locals := 104 }) (va_Pc [.ref (ad 0), .int v, .int x] (XN D T ad I R)) (RqI (-31)) 1 6 (fun _ => False) := by
  refine metH_ofW (cc := cL_pointOf) (maxL := 5) (ret := some .int) (by decide) rfl ?_
  intro p e s m args_ below meth c s₁ B hml hv
  obtain ⟨rfl, ⟨⟨hP, hK, hN⟩, hXU, hXZ⟩, hNc⟩ := hv
  have hx := B.exec
  have hb := B.bytes
  have hr := B.returns
  have hts := atoms_spec (ws := wsL_pointOf) B.pre
  have hown : s.vm.findClass RL = some m.cls := findClass_of_methodNamed B.named
  have hlocks := B.notSynchronized
  have hS : va_S (fun _ => False) s.heap s.heap [] := va_S.rf
  have hl := lv_entry ([.ref (ad 0), .int v, .int x]) (n := 5) (Nat.le_of_ble_eq_true rfl)
  rw [lg_entry_eq]
  generalize (lg_sl ([.ref (ad 0), .int v, .int x]) ++ List.replicate (5 - (lg_sl ([.ref (ad 0), .int v, .int x])).length) Slot.unset).toArray = ls at hl ⊢
  have hl : lv_has ls 5 [(0, .ref (ad 0)), (1, .int v), (2, .int x)] := hl
  refine lv_aload_n hx hb dL_pointOf_0 rfl (lv_at hl 0 rfl) ?_
  refine lv_iload_n hx hb dL_pointOf_1 rfl (lv_at hl 1 rfl) ?_
  refine lv_iload_n hx hb dL_pointOf_2 rfl (lv_at hl 2 rfl) ?_
  refine vx_calli (vx_runV (As := [.int v, .int x]) (rest := []) ⟨hx, hb, hml, hown, hts⟩ (c_X3_pointOf_t1 l D T ad I R hlt v x h1) (cwV 2 hts gL_pointOf_X3_pointOf rfl rfl rfl (by decide +kernel) ⟨Nat.le_of_ble_eq_true rfl, Nat.le_of_ble_eq_true rfl⟩) ⟨XR.blind, va_recv hK hP (ci := 3) (q0 := 0) rfl cw_0, XR.pre hP hK hN hXU hXZ hS rfl⟩ rfl rfl hl.1 rfl (lv_room (Nat.le_of_ble_eq_true rfl)) dL_pointOf_3 ⟨Nat.le_of_ble_eq_true rfl, Nat.le_of_ble_eq_true rfl⟩) hS (fun q _ h => h.elim) (fun q h => h.elim) (fun q _ h => h.elim) (fun E ce q9 u t H1 locs1 ht hal _ hE hz hk hS1 hce hcv hcl => ?_) (fun r u t H1 locs1 _ _ hf _ _ _ _ => hf.elim)
  obtain rfl : E = "java/lang/IndexOutOfBoundsException" := hE
  refine vx_catch (name := "java/lang/IndexOutOfBoundsException") hown [] ⟨0, 7, 10, 15⟩ [⟨0, 7, 15, 17⟩] ((vx_table (x := yL_pointOf) B (hts _ List.mem_cons_self)).trans rfl) (fun z hz9 => absurd hz9 List.not_mem_nil) (by decide) (by decide) (hts (.classLink RL 15 "java/lang/IndexOutOfBoundsException") (by decide +kernel)) (va_Nw.use rfl (hXU.1 _ (List.mem_of_getElem? (i := 3) rfl))) hce hcv hcl ?_
  refine lv_astore (lv' := [(4, .ref q9), (0, .ref (ad 0)), (1, .int v), (2, .int x)]) hx hb dL_pointOf_10 hl (by decide) rfl (fun ls hl => ?_)
  refine lv_bipush (v := (-31)) hx hb dL_pointOf_12 (by decide) ?_
  exact W.iret (v := (-31)) hx hb hr (fun t ht hW => ⟨⟨(-31), (), rfl, rfl, trivial⟩, hS1.F ht⟩) hS1.2.2 dL_pointOf_14
set_option maxHeartbeats 4000000 in
set_option maxRecDepth 100000 in
theorem h_pointOf_t2 (l : Launch) (D : va_G) (T : Nat → ClassId) (ad : Nat → Nat) (I : Nat → Int32) (R : Nat → Nat → Int32) (hlt : l.stackTraces = false) (k : Nat) (x : Int32) (hk : k < 8) (h1 : outI x 0 2 = 1) : Met l yL_pointOf wsL_pointOf ({ frames := 7, cells := 1, slots := 6, locals := 104 }) (va_Pc [.ref (ad 0), .int (nI k), .int x] (XN D T ad I R)) (RqI (-32)) 1 6 (fun _ => False) := by
  refine metH_ofW (cc := cL_pointOf) (maxL := 5) (ret := some .int) (by decide) rfl ?_
  intro p e s m args_ below meth c s₁ B hml hv
  obtain ⟨rfl, ⟨⟨hP, hK, hN⟩, hXU, hXZ⟩, hNc⟩ := hv
  have hx := B.exec
  have hb := B.bytes
  have hr := B.returns
  have hts := atoms_spec (ws := wsL_pointOf) B.pre
  have hown : s.vm.findClass RL = some m.cls := findClass_of_methodNamed B.named
  have hlocks := B.notSynchronized
  have hS : va_S (fun _ => False) s.heap s.heap [] := va_S.rf
  have hl := lv_entry ([.ref (ad 0), .int (nI k), .int x]) (n := 5) (Nat.le_of_ble_eq_true rfl)
  rw [lg_entry_eq]
  generalize (lg_sl ([.ref (ad 0), .int (nI k), .int x]) ++ List.replicate (5 - (lg_sl ([.ref (ad 0), .int (nI k), .int x])).length) Slot.unset).toArray = ls at hl ⊢
  have hl : lv_has ls 5 [(0, .ref (ad 0)), (1, .int (nI k)), (2, .int x)] := hl
  refine lv_aload_n hx hb dL_pointOf_0 rfl (lv_at hl 0 rfl) ?_
  refine lv_iload_n hx hb dL_pointOf_1 rfl (lv_at hl 1 rfl) ?_
  refine lv_iload_n hx hb dL_pointOf_2 rfl (lv_at hl 2 rfl) ?_
  refine vx_calli (vx_runV (As := [.int (nI k), .int x]) (rest := []) ⟨hx, hb, hml, hown, hts⟩ (c_X3_pointOf_t2 l D T ad I R hlt k x hk h1) (cwV 2 hts gL_pointOf_X3_pointOf rfl rfl rfl (by decide +kernel) ⟨Nat.le_of_ble_eq_true rfl, Nat.le_of_ble_eq_true rfl⟩) ⟨XR.blind, va_recv hK hP (ci := 3) (q0 := 0) rfl cw_0, XR.pre hP hK hN hXU hXZ hS rfl⟩ rfl rfl hl.1 rfl (lv_room (Nat.le_of_ble_eq_true rfl)) dL_pointOf_3 ⟨Nat.le_of_ble_eq_true rfl, Nat.le_of_ble_eq_true rfl⟩) hS (fun q _ h => h.elim) (fun q h => h.elim) (fun q _ h => h.elim) (fun E ce q9 u t H1 locs1 ht hal _ hE hz hk hS1 hce hcv hcl => ?_) (fun r u t H1 locs1 _ _ hf _ _ _ _ => hf.elim)
  obtain rfl : E = "java/lang/IllegalArgumentException" := hE
  refine vx_catch (name := "java/lang/IllegalArgumentException") hown [⟨0, 7, 10, 15⟩] ⟨0, 7, 15, 17⟩ [] ((vx_table (x := yL_pointOf) B (hts _ List.mem_cons_self)).trans rfl) (fun z hz9 => by rcases List.mem_singleton.mp hz9 with rfl; exact Or.inr ⟨by decide, "java/lang/IndexOutOfBoundsException", hts (.classLink RL 15 "java/lang/IndexOutOfBoundsException") (by decide +kernel), hNc.1⟩) (by decide) (by decide) (hts (.classLink RL 17 "java/lang/IllegalArgumentException") (by decide +kernel)) (va_Nw.use rfl (hXU.1 _ (List.mem_of_getElem? (i := 4) rfl))) hce hcv hcl ?_
  refine lv_astore (lv' := [(4, .ref q9), (0, .ref (ad 0)), (1, .int (nI k)), (2, .int x)]) hx hb dL_pointOf_15 hl (by decide) rfl (fun ls hl => ?_)
  refine lv_bipush (v := (-32)) hx hb dL_pointOf_17 (by decide) ?_
  exact W.iret (v := (-32)) hx hb hr (fun t ht hW => ⟨⟨(-32), (), rfl, rfl, trivial⟩, hS1.F ht⟩) hS1.2.2 dL_pointOf_19
set_option maxHeartbeats 4000000 in
set_option maxRecDepth 100000 in
theorem h_enough_t1 (l : Launch) (D : va_G) (T : Nat → ClassId) (ad : Nat → Nat) (I : Nat → Int32) (R : Nat → Nat → Int32) (hlt : l.stackTraces = false) (x : Int32) (y : Int32) (h1 : outI x 0 9999999 = 1) : Met l yL_enough wsL_enough ({ frames := 7, cells := 1, slots := 6, locals := 104 }) (va_Pc [.ref (ad 0), .int x, .int y] (XN D T ad I R)) (RqI (-32)) 1 6 (fun _ => False) := by
  refine metH_ofW (cc := cL_enough) (maxL := 5) (ret := some .int) (by decide) rfl ?_
  intro p e s m args_ below meth c s₁ B hml hv
  obtain ⟨rfl, ⟨⟨hP, hK, hN⟩, hXU, hXZ⟩, hNc⟩ := hv
  have hx := B.exec
  have hb := B.bytes
  have hr := B.returns
  have hts := atoms_spec (ws := wsL_enough) B.pre
  have hown : s.vm.findClass RL = some m.cls := findClass_of_methodNamed B.named
  have hlocks := B.notSynchronized
  have hS : va_S (fun _ => False) s.heap s.heap [] := va_S.rf
  have hl := lv_entry ([.ref (ad 0), .int x, .int y]) (n := 5) (Nat.le_of_ble_eq_true rfl)
  rw [lg_entry_eq]
  generalize (lg_sl ([.ref (ad 0), .int x, .int y]) ++ List.replicate (5 - (lg_sl ([.ref (ad 0), .int x, .int y])).length) Slot.unset).toArray = ls at hl ⊢
  have hl : lv_has ls 5 [(0, .ref (ad 0)), (1, .int x), (2, .int y)] := hl
  refine lv_aload_n hx hb dL_enough_0 rfl (lv_at hl 0 rfl) ?_
  refine lv_iload_n hx hb dL_enough_1 rfl (lv_at hl 1 rfl) ?_
  refine lv_iload_n hx hb dL_enough_2 rfl (lv_at hl 2 rfl) ?_
  refine vx_calli (vx_runV (As := [.int x, .int y]) (rest := []) ⟨hx, hb, hml, hown, hts⟩ (c_X3_enough_t1 l D T ad I R hlt x y h1) (cwV 2 hts gL_enough_X3_enough rfl rfl rfl (by decide +kernel) ⟨Nat.le_of_ble_eq_true rfl, Nat.le_of_ble_eq_true rfl⟩) ⟨XR.blind, va_recv hK hP (ci := 3) (q0 := 0) rfl cw_0, XR.pre hP hK hN hXU hXZ hS rfl⟩ rfl rfl hl.1 rfl (lv_room (Nat.le_of_ble_eq_true rfl)) dL_enough_3 ⟨Nat.le_of_ble_eq_true rfl, Nat.le_of_ble_eq_true rfl⟩) hS (fun q _ h => h.elim) (fun q h => h.elim) (fun q _ h => h.elim) (fun E ce q9 u t H1 locs1 ht hal _ hE hz hk hS1 hce hcv hcl => ?_) (fun r u t H1 locs1 _ _ hf _ _ _ _ => hf.elim)
  obtain rfl : E = "java/lang/IllegalArgumentException" := hE
  refine vx_catch (name := "java/lang/IllegalArgumentException") hown [] ⟨0, 7, 10, 17⟩ [] ((vx_table (x := yL_enough) B (hts _ List.mem_cons_self)).trans rfl) (fun z hz9 => absurd hz9 List.not_mem_nil) (by decide) (by decide) (hts (.classLink RL 17 "java/lang/IllegalArgumentException") (by decide +kernel)) (va_Nw.use rfl (hXU.1 _ (List.mem_of_getElem? (i := 4) rfl))) hce hcv hcl ?_
  refine lv_astore (lv' := [(4, .ref q9), (0, .ref (ad 0)), (1, .int x), (2, .int y)]) hx hb dL_enough_10 hl (by decide) rfl (fun ls hl => ?_)
  refine lv_bipush (v := (-32)) hx hb dL_enough_12 (by decide) ?_
  exact W.iret (v := (-32)) hx hb hr (fun t ht hW => ⟨⟨(-32), (), rfl, rfl, trivial⟩, hS1.F ht⟩) hS1.2.2 dL_enough_14
set_option maxHeartbeats 4000000 in
set_option maxRecDepth 100000 in
theorem h_enough_t2 (l : Launch) (D : va_G) (T : Nat → ClassId) (ad : Nat → Nat) (I : Nat → Int32) (R : Nat → Nat → Int32) (hlt : l.stackTraces = false) (x : Int32) (y : Int32) (hx9 : outI x 0 9999999 = 0) (h1 : outI y 0 1 = 1) : Met l yL_enough wsL_enough ({ frames := 7, cells := 1, slots := 6, locals := 104 }) (va_Pc [.ref (ad 0), .int x, .int y] (XN D T ad I R)) (RqI (-32)) 1 6 (fun _ => False) := by
  refine metH_ofW (cc := cL_enough) (maxL := 5) (ret := some .int) (by decide) rfl ?_
  intro p e s m args_ below meth c s₁ B hml hv
  obtain ⟨rfl, ⟨⟨hP, hK, hN⟩, hXU, hXZ⟩, hNc⟩ := hv
  have hx := B.exec
  have hb := B.bytes
  have hr := B.returns
  have hts := atoms_spec (ws := wsL_enough) B.pre
  have hown : s.vm.findClass RL = some m.cls := findClass_of_methodNamed B.named
  have hlocks := B.notSynchronized
  have hS : va_S (fun _ => False) s.heap s.heap [] := va_S.rf
  have hl := lv_entry ([.ref (ad 0), .int x, .int y]) (n := 5) (Nat.le_of_ble_eq_true rfl)
  rw [lg_entry_eq]
  generalize (lg_sl ([.ref (ad 0), .int x, .int y]) ++ List.replicate (5 - (lg_sl ([.ref (ad 0), .int x, .int y])).length) Slot.unset).toArray = ls at hl ⊢
  have hl : lv_has ls 5 [(0, .ref (ad 0)), (1, .int x), (2, .int y)] := hl
  refine lv_aload_n hx hb dL_enough_0 rfl (lv_at hl 0 rfl) ?_
  refine lv_iload_n hx hb dL_enough_1 rfl (lv_at hl 1 rfl) ?_
  refine lv_iload_n hx hb dL_enough_2 rfl (lv_at hl 2 rfl) ?_
  refine vx_calli (vx_runV (As := [.int x, .int y]) (rest := []) ⟨hx, hb, hml, hown, hts⟩ (c_X3_enough_t2 l D T ad I R hlt x y hx9 h1) (cwV 2 hts gL_enough_X3_enough rfl rfl rfl (by decide +kernel) ⟨Nat.le_of_ble_eq_true rfl, Nat.le_of_ble_eq_true rfl⟩) ⟨XR.blind, va_recv hK hP (ci := 3) (q0 := 0) rfl cw_0, XR.pre hP hK hN hXU hXZ hS rfl⟩ rfl rfl hl.1 rfl (lv_room (Nat.le_of_ble_eq_true rfl)) dL_enough_3 ⟨Nat.le_of_ble_eq_true rfl, Nat.le_of_ble_eq_true rfl⟩) hS (fun q _ h => h.elim) (fun q h => h.elim) (fun q _ h => h.elim) (fun E ce q9 u t H1 locs1 ht hal _ hE hz hk hS1 hce hcv hcl => ?_) (fun r u t H1 locs1 _ _ hf _ _ _ _ => hf.elim)
  obtain rfl : E = "java/lang/IllegalArgumentException" := hE
  refine vx_catch (name := "java/lang/IllegalArgumentException") hown [] ⟨0, 7, 10, 17⟩ [] ((vx_table (x := yL_enough) B (hts _ List.mem_cons_self)).trans rfl) (fun z hz9 => absurd hz9 List.not_mem_nil) (by decide) (by decide) (hts (.classLink RL 17 "java/lang/IllegalArgumentException") (by decide +kernel)) (va_Nw.use rfl (hXU.1 _ (List.mem_of_getElem? (i := 4) rfl))) hce hcv hcl ?_
  refine lv_astore (lv' := [(4, .ref q9), (0, .ref (ad 0)), (1, .int x), (2, .int y)]) hx hb dL_enough_10 hl (by decide) rfl (fun ls hl => ?_)
  refine lv_bipush (v := (-32)) hx hb dL_enough_12 (by decide) ?_
  exact W.iret (v := (-32)) hx hb hr (fun t ht hW => ⟨⟨(-32), (), rfl, rfl, trivial⟩, hS1.F ht⟩) hS1.2.2 dL_enough_14
set_option maxHeartbeats 4000000 in
set_option maxRecDepth 100000 in
theorem h_ifTurned_t1 (l : Launch) (D : va_G) (T : Nat → ClassId) (ad : Nat → Nat) (I : Nat → Int32) (R : Nat → Nat → Int32) (hlt : l.stackTraces = false) (x : Int32) (v : Int32) (h1 : outI v 0 7 = 1) : Met l yL_ifTurned wsL_ifTurned ({ frames := 7, cells := 1, slots := 6, locals := 104 }) (va_Pc [.ref (ad 0), .int x, .int v] (XN D T ad I R)) (RqI (-31)) 1 6 (fun _ => False) := by
  refine metH_ofW (cc := cL_ifTurned) (maxL := 5) (ret := some .int) (by decide) rfl ?_
  intro p e s m args_ below meth c s₁ B hml hv
  obtain ⟨rfl, ⟨⟨hP, hK, hN⟩, hXU, hXZ⟩, hNc⟩ := hv
  have hx := B.exec
  have hb := B.bytes
  have hr := B.returns
  have hts := atoms_spec (ws := wsL_ifTurned) B.pre
  have hown : s.vm.findClass RL = some m.cls := findClass_of_methodNamed B.named
  have hlocks := B.notSynchronized
  have hS : va_S (fun _ => False) s.heap s.heap [] := va_S.rf
  have hl := lv_entry ([.ref (ad 0), .int x, .int v]) (n := 5) (Nat.le_of_ble_eq_true rfl)
  rw [lg_entry_eq]
  generalize (lg_sl ([.ref (ad 0), .int x, .int v]) ++ List.replicate (5 - (lg_sl ([.ref (ad 0), .int x, .int v])).length) Slot.unset).toArray = ls at hl ⊢
  have hl : lv_has ls 5 [(0, .ref (ad 0)), (1, .int x), (2, .int v)] := hl
  refine lv_aload_n hx hb dL_ifTurned_0 rfl (lv_at hl 0 rfl) ?_
  refine lv_iload_n hx hb dL_ifTurned_1 rfl (lv_at hl 1 rfl) ?_
  refine lv_iload_n hx hb dL_ifTurned_2 rfl (lv_at hl 2 rfl) ?_
  refine vx_calli (vx_runV (As := [.int x, .int v]) (rest := []) ⟨hx, hb, hml, hown, hts⟩ (c_X3_ifTurned_t1 l D T ad I R hlt x v h1) (cwV 2 hts gL_ifTurned_X3_ifTurned rfl rfl rfl (by decide +kernel) ⟨Nat.le_of_ble_eq_true rfl, Nat.le_of_ble_eq_true rfl⟩) ⟨XR.blind, va_recv hK hP (ci := 3) (q0 := 0) rfl cw_0, XR.pre hP hK hN hXU hXZ hS rfl⟩ rfl rfl hl.1 rfl (lv_room (Nat.le_of_ble_eq_true rfl)) dL_ifTurned_3 ⟨Nat.le_of_ble_eq_true rfl, Nat.le_of_ble_eq_true rfl⟩) hS (fun q _ h => h.elim) (fun q h => h.elim) (fun q _ h => h.elim) (fun E ce q9 u t H1 locs1 ht hal _ hE hz hk hS1 hce hcv hcl => ?_) (fun r u t H1 locs1 _ _ hf _ _ _ _ => hf.elim)
  obtain rfl : E = "java/lang/IndexOutOfBoundsException" := hE
  refine vx_catch (name := "java/lang/IndexOutOfBoundsException") hown [] ⟨0, 7, 10, 15⟩ [⟨0, 7, 15, 17⟩] ((vx_table (x := yL_ifTurned) B (hts _ List.mem_cons_self)).trans rfl) (fun z hz9 => absurd hz9 List.not_mem_nil) (by decide) (by decide) (hts (.classLink RL 15 "java/lang/IndexOutOfBoundsException") (by decide +kernel)) (va_Nw.use rfl (hXU.1 _ (List.mem_of_getElem? (i := 3) rfl))) hce hcv hcl ?_
  refine lv_astore (lv' := [(4, .ref q9), (0, .ref (ad 0)), (1, .int x), (2, .int v)]) hx hb dL_ifTurned_10 hl (by decide) rfl (fun ls hl => ?_)
  refine lv_bipush (v := (-31)) hx hb dL_ifTurned_12 (by decide) ?_
  exact W.iret (v := (-31)) hx hb hr (fun t ht hW => ⟨⟨(-31), (), rfl, rfl, trivial⟩, hS1.F ht⟩) hS1.2.2 dL_ifTurned_14
set_option maxHeartbeats 4000000 in
set_option maxRecDepth 100000 in
theorem h_ifTurned_t2 (l : Launch) (D : va_G) (T : Nat → ClassId) (ad : Nat → Nat) (I : Nat → Int32) (R : Nat → Nat → Int32) (hlt : l.stackTraces = false) (x : Int32) (k : Nat) (hk : k < 8) (h1 : outI x 0 7 = 1) : Met l yL_ifTurned wsL_ifTurned ({ frames := 7, cells := 1, slots := 6, locals := 104 }) (va_Pc [.ref (ad 0), .int x, .int (nI k)] (XN D T ad I R)) (RqI (-32)) 1 6 (fun _ => False) := by
  refine metH_ofW (cc := cL_ifTurned) (maxL := 5) (ret := some .int) (by decide) rfl ?_
  intro p e s m args_ below meth c s₁ B hml hv
  obtain ⟨rfl, ⟨⟨hP, hK, hN⟩, hXU, hXZ⟩, hNc⟩ := hv
  have hx := B.exec
  have hb := B.bytes
  have hr := B.returns
  have hts := atoms_spec (ws := wsL_ifTurned) B.pre
  have hown : s.vm.findClass RL = some m.cls := findClass_of_methodNamed B.named
  have hlocks := B.notSynchronized
  have hS : va_S (fun _ => False) s.heap s.heap [] := va_S.rf
  have hl := lv_entry ([.ref (ad 0), .int x, .int (nI k)]) (n := 5) (Nat.le_of_ble_eq_true rfl)
  rw [lg_entry_eq]
  generalize (lg_sl ([.ref (ad 0), .int x, .int (nI k)]) ++ List.replicate (5 - (lg_sl ([.ref (ad 0), .int x, .int (nI k)])).length) Slot.unset).toArray = ls at hl ⊢
  have hl : lv_has ls 5 [(0, .ref (ad 0)), (1, .int x), (2, .int (nI k))] := hl
  refine lv_aload_n hx hb dL_ifTurned_0 rfl (lv_at hl 0 rfl) ?_
  refine lv_iload_n hx hb dL_ifTurned_1 rfl (lv_at hl 1 rfl) ?_
  refine lv_iload_n hx hb dL_ifTurned_2 rfl (lv_at hl 2 rfl) ?_
  refine vx_calli (vx_runV (As := [.int x, .int (nI k)]) (rest := []) ⟨hx, hb, hml, hown, hts⟩ (c_X3_ifTurned_t2 l D T ad I R hlt x k hk h1) (cwV 2 hts gL_ifTurned_X3_ifTurned rfl rfl rfl (by decide +kernel) ⟨Nat.le_of_ble_eq_true rfl, Nat.le_of_ble_eq_true rfl⟩) ⟨XR.blind, va_recv hK hP (ci := 3) (q0 := 0) rfl cw_0, XR.pre hP hK hN hXU hXZ hS rfl⟩ rfl rfl hl.1 rfl (lv_room (Nat.le_of_ble_eq_true rfl)) dL_ifTurned_3 ⟨Nat.le_of_ble_eq_true rfl, Nat.le_of_ble_eq_true rfl⟩) hS (fun q _ h => h.elim) (fun q h => h.elim) (fun q _ h => h.elim) (fun E ce q9 u t H1 locs1 ht hal _ hE hz hk hS1 hce hcv hcl => ?_) (fun r u t H1 locs1 _ _ hf _ _ _ _ => hf.elim)
  obtain rfl : E = "java/lang/IllegalArgumentException" := hE
  refine vx_catch (name := "java/lang/IllegalArgumentException") hown [⟨0, 7, 10, 15⟩] ⟨0, 7, 15, 17⟩ [] ((vx_table (x := yL_ifTurned) B (hts _ List.mem_cons_self)).trans rfl) (fun z hz9 => by rcases List.mem_singleton.mp hz9 with rfl; exact Or.inr ⟨by decide, "java/lang/IndexOutOfBoundsException", hts (.classLink RL 15 "java/lang/IndexOutOfBoundsException") (by decide +kernel), hNc.1⟩) (by decide) (by decide) (hts (.classLink RL 17 "java/lang/IllegalArgumentException") (by decide +kernel)) (va_Nw.use rfl (hXU.1 _ (List.mem_of_getElem? (i := 4) rfl))) hce hcv hcl ?_
  refine lv_astore (lv' := [(4, .ref q9), (0, .ref (ad 0)), (1, .int x), (2, .int (nI k))]) hx hb dL_ifTurned_15 hl (by decide) rfl (fun ls hl => ?_)
  refine lv_bipush (v := (-32)) hx hb dL_ifTurned_17 (by decide) ?_
  exact W.iret (v := (-32)) hx hb hr (fun t ht hW => ⟨⟨(-32), (), rfl, rfl, trivial⟩, hS1.F ht⟩) hS1.2.2 dL_ifTurned_19

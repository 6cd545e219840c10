set_option maxHeartbeats 4000000 in
set_option maxRecDepth 100000 in
theorem h_set (l : Launch) (D : va_G) (T : Nat → ClassId) (ad : Nat → Nat) (I : Nat → Int32) (R : Nat → Nat → Int32) (sz : Nat) (ao : Nat) (g : Nat → Int64) (nx : Nat) (ct : Nat) (k : Nat) (x : Int32) (hAD : AD 34 ad) (hnx : nx < 6) (hct : ct ≤ 6) (hI1 : I 1 = nI nx) (hI2 : I 2 = nI ct) (hk : k < 8) (hx9 : outI x (-99) 99 = 0) (hao : ∀ k, k < 34 → ad k ≠ ao) : Met l yL_set wsL_set ({ frames := 4, cells := 0, slots := 0, locals := 83 }) (va_Pc [.ref (ad 0), .int (nI k), .int x, .ref ao] (HB D T ad ao I R g sz)) (va_Qi (fun r (u9 : Unit) => r = 0 ∧ True) (fun (u9 : Unit) t => va_P D vwCl (cw T ad (pushI I nx ct) (updR (pushR R nx) 0 (upd (R 0) k x))) t.heap ∧ va_P D vwCl (ow T ao (vp_updL g 0 (Int32.toInt64 (R 0 k)))) t.heap) (hA ad ao sz)) 0 0 (hA ad ao sz) := by
  refine metH_ofW (cc := cL_set) (maxL := 5) (ret := some .int) (by decide) rfl ?_
  intro p e s m args_ below meth c s₁ B hml hv
  obtain ⟨rfl, hsz, ⟨hP, hK, hN⟩, hO⟩ := hv
  have hx := B.exec
  have hb := B.bytes
  have hr := B.returns
  have hts := atoms_spec (ws := wsL_set) B.pre
  have hown : s.vm.findClass RL = some m.cls := findClass_of_methodNamed B.named
  have hlocks := B.notSynchronized
  subst hsz
  have hS : va_S (hA ad ao s.heap.size) s.heap s.heap [] := va_S.rf
  have hl := lv_entry ([.ref (ad 0), .int (nI k), .int x, .ref ao]) (n := 5) (Nat.le_of_ble_eq_true rfl)
  rw [lg_entry_eq]
  generalize (lg_sl ([.ref (ad 0), .int (nI k), .int x, .ref ao]) ++ List.replicate (5 - (lg_sl ([.ref (ad 0), .int (nI k), .int x, .ref ao])).length) Slot.unset).toArray = ls at hl ⊢
  have hl : lv_has ls 5 [(0, .ref (ad 0)), (1, .int (nI k)), (2, .int x), (3, .ref ao)] := hl
  refine lv_aload_n hx hb dL_set_0 rfl (lv_at hl 3 rfl) ?_
  refine lv_iconst (v := 0) hx hb dL_set_1 (by decide) ?_
  refine lv_aload_n hx hb dL_set_2 rfl (lv_at hl 0 rfl) ?_
  refine lv_iload_n hx hb dL_set_3 rfl (lv_at hl 1 rfl) ?_
  refine lv_iload_n hx hb dL_set_4 rfl (lv_at hl 2 rfl) ?_
  refine cx_wi (va_runV (As := [.int (nI k), .int x]) (rest := [.int 0, .ref ao]) ⟨hx, hb, hml, hown, hts⟩ (c_X3_set l D T ad I R _ nx ct k x hAD hnx hct hI1 hI2 hk hx9) (cwV 2 hts gL_set_X3_set rfl rfl rfl (by decide +kernel) ⟨Nat.le_of_ble_eq_true rfl, Nat.le_of_ble_eq_true rfl⟩) ⟨CB.blind, va_recv hK hP (ci := 3) (q0 := 0) rfl cw_0, CB.pre hP hK hN rfl⟩ rfl rfl hl.1 rfl (lv_room (Nat.le_of_ble_eq_true rfl)) dL_set_5 ⟨Nat.le_of_ble_eq_true rfl, Nat.le_of_ble_eq_true rfl⟩) hS (fun q h => Or.inl (cA_le hS.1 q h)) (fun q h => Or.inl (cA_le hS.1 q h)) (fun u9 H locs _ hP hkk hS => ?_)
  have hO := ow_kept hO hkk hao
  refine lv_i2l hx hb dL_set_8 rfl ?_
  refine cx_lasto hx hb hK hP hO hAD hao (fun k hk => Or.inl (cA_in hk)) (Or.inr rfl) hS dL_set_9 (fun H locs hP hO hS => ?_)
  refine lv_goto (tgt := 21) hx hb dL_set_10 (by decide) ?_
  refine lv_iconst (v := 0) hx hb dL_set_21 (by decide) ?_
  exact W.iret (v := 0) hx hb hr (fun t ht hW => ⟨⟨0, u9, rfl, ⟨rfl, trivial⟩, ⟨by show va_P _ _ _ _; rw [ht]; exact hP, by show va_P _ _ _ _; rw [ht]; exact hO⟩⟩, hS.F ht⟩) hS.2.2 dL_set_22
set_option maxHeartbeats 4000000 in
set_option maxRecDepth 100000 in
theorem h_lose (l : Launch) (D : va_G) (T : Nat → ClassId) (ad : Nat → Nat) (I : Nat → Int32) (R : Nat → Nat → Int32) (sz : Nat) (ao : Nat) (g : Nat → Int64) (nx : Nat) (ct : Nat) (lm : Nat) (k : Nat) (hAD : AD 34 ad) (hnx : nx < 6) (hct : ct ≤ 6) (hI1 : I 1 = nI nx) (hI2 : I 2 = nI ct) (hm : lm < 256) (hI : I 4 = nI lm) (hk : k < 8) (hao : ∀ k, k < 34 → ad k ≠ ao) : Met l yL_lose wsL_lose ({ frames := 4, cells := 0, slots := 0, locals := 81 }) (va_Pc [.ref (ad 0), .int (nI k), .ref ao] (HB D T ad ao I R g sz)) (va_Qi (fun r (u9 : Unit) => r = 0 ∧ True) (fun (u9 : Unit) t => va_P D vwCl (cw T ad (upd (pushI I nx ct) 4 (nI (lm ^^^ 2 ^ k))) (pushR R nx)) t.heap ∧ va_P D vwCl (ow T ao (vp_updL g 0 (Int32.toInt64 (lbI (lm ^^^ 2 ^ k) k)))) t.heap) (hA ad ao sz)) 0 0 (hA ad ao sz) := by
  refine metH_ofW (cc := cL_lose) (maxL := 4) (ret := some .int) (by decide) rfl ?_
  intro p e s m args_ below meth c s₁ B hml hv
  obtain ⟨rfl, hsz, ⟨hP, hK, hN⟩, hO⟩ := hv
  have hx := B.exec
  have hb := B.bytes
  have hr := B.returns
  have hts := atoms_spec (ws := wsL_lose) B.pre
  have hown : s.vm.findClass RL = some m.cls := findClass_of_methodNamed B.named
  have hlocks := B.notSynchronized
  subst hsz
  have hS : va_S (hA ad ao s.heap.size) s.heap s.heap [] := va_S.rf
  have hl := lv_entry ([.ref (ad 0), .int (nI k), .ref ao]) (n := 4) (Nat.le_of_ble_eq_true rfl)
  rw [lg_entry_eq]
  generalize (lg_sl ([.ref (ad 0), .int (nI k), .ref ao]) ++ List.replicate (4 - (lg_sl ([.ref (ad 0), .int (nI k), .ref ao])).length) Slot.unset).toArray = ls at hl ⊢
  have hl : lv_has ls 4 [(0, .ref (ad 0)), (1, .int (nI k)), (2, .ref ao)] := hl
  refine lv_aload_n hx hb dL_lose_0 rfl (lv_at hl 2 rfl) ?_
  refine lv_iconst (v := 0) hx hb dL_lose_1 (by decide) ?_
  refine lv_aload_n hx hb dL_lose_2 rfl (lv_at hl 0 rfl) ?_
  refine lv_iload_n hx hb dL_lose_3 rfl (lv_at hl 1 rfl) ?_
  refine cx_wi (va_runV (As := [.int (nI k)]) (rest := [.int 0, .ref ao]) ⟨hx, hb, hml, hown, hts⟩ (c_X3_lose l D T ad I R _ nx ct lm k hAD hnx hct hI1 hI2 hm hI hk) (cwV 1 hts gL_lose_X3_lose rfl rfl rfl (by decide +kernel) ⟨Nat.le_of_ble_eq_true rfl, Nat.le_of_ble_eq_true rfl⟩) ⟨CB.blind, va_recv hK hP (ci := 3) (q0 := 0) rfl cw_0, CB.pre hP hK hN rfl⟩ rfl rfl hl.1 rfl (lv_room (Nat.le_of_ble_eq_true rfl)) dL_lose_4 ⟨Nat.le_of_ble_eq_true rfl, Nat.le_of_ble_eq_true rfl⟩) hS (fun q h => Or.inl (cA_le hS.1 q h)) (fun q h => Or.inl (cA_le hS.1 q h)) (fun u9 H locs _ hP hkk hS => ?_)
  have hO := ow_kept hO hkk hao
  refine lv_i2l hx hb dL_lose_7 rfl ?_
  refine cx_lasto hx hb hK hP hO hAD hao (fun k hk => Or.inl (cA_in hk)) (Or.inr rfl) hS dL_lose_8 (fun H locs hP hO hS => ?_)
  refine lv_goto (tgt := 15) hx hb dL_lose_9 (by decide) ?_
  refine lv_iconst (v := 0) hx hb dL_lose_15 (by decide) ?_
  exact W.iret (v := 0) hx hb hr (fun t ht hW => ⟨⟨0, u9, rfl, ⟨rfl, trivial⟩, ⟨by show va_P _ _ _ _; rw [ht]; exact hP, by show va_P _ _ _ _; rw [ht]; exact hO⟩⟩, hS.F ht⟩) hS.2.2 dL_lose_16
set_option maxHeartbeats 4000000 in
set_option maxRecDepth 100000 in
theorem h_turn (l : Launch) (D : va_G) (T : Nat → ClassId) (ad : Nat → Nat) (I : Nat → Int32) (R : Nat → Nat → Int32) (sz : Nat) (ao : Nat) (g : Nat → Int64) (nx : Nat) (ct : Nat) (b : Nat) (hAD : AD 34 ad) (hnx : nx < 6) (hct : ct ≤ 6) (hI1 : I 1 = nI nx) (hI2 : I 2 = nI ct) (hb8 : b < 8) (hao : ∀ k, k < 34 → ad k ≠ ao) : Met l yL_turn wsL_turn ({ frames := 4, cells := 0, slots := 0, locals := 83 }) (va_Pc [.ref (ad 0), .int (nI b), .ref ao] (HB D T ad ao I R g sz)) (va_Qi (fun r (u9 : Unit) => r = 0 ∧ True) (fun (u9 : Unit) t => va_P D vwCl (cw T ad (pushI I nx ct) (updR (pushR R nx) 0 (tuF (R 0) b))) t.heap ∧ va_P D vwCl (ow T ao (vp_updL g 0 (Int32.toInt64 (tuS (R 0) b 8)))) t.heap) (hA ad ao sz)) 0 0 (hA ad ao sz) := by
  refine metH_ofW (cc := cL_turn) (maxL := 4) (ret := some .int) (by decide) rfl ?_
  intro p e s m args_ below meth c s₁ B hml hv
  obtain ⟨rfl, hsz, ⟨hP, hK, hN⟩, hO⟩ := hv
  have hx := B.exec
  have hb := B.bytes
  have hr := B.returns
  have hts := atoms_spec (ws := wsL_turn) B.pre
  have hown : s.vm.findClass RL = some m.cls := findClass_of_methodNamed B.named
  have hlocks := B.notSynchronized
  subst hsz
  have hS : va_S (hA ad ao s.heap.size) s.heap s.heap [] := va_S.rf
  have hl := lv_entry ([.ref (ad 0), .int (nI b), .ref ao]) (n := 4) (Nat.le_of_ble_eq_true rfl)
  rw [lg_entry_eq]
  generalize (lg_sl ([.ref (ad 0), .int (nI b), .ref ao]) ++ List.replicate (4 - (lg_sl ([.ref (ad 0), .int (nI b), .ref ao])).length) Slot.unset).toArray = ls at hl ⊢
  have hl : lv_has ls 4 [(0, .ref (ad 0)), (1, .int (nI b)), (2, .ref ao)] := hl
  refine lv_aload_n hx hb dL_turn_0 rfl (lv_at hl 2 rfl) ?_
  refine lv_iconst (v := 0) hx hb dL_turn_1 (by decide) ?_
  refine lv_aload_n hx hb dL_turn_2 rfl (lv_at hl 0 rfl) ?_
  refine lv_iload_n hx hb dL_turn_3 rfl (lv_at hl 1 rfl) ?_
  refine cx_wi (va_runV (As := [.int (nI b)]) (rest := [.int 0, .ref ao]) ⟨hx, hb, hml, hown, hts⟩ (c_X3_turn l D T ad I R _ nx ct b hAD hnx hct hI1 hI2 hb8) (cwV 1 hts gL_turn_X3_turn rfl rfl rfl (by decide +kernel) ⟨Nat.le_of_ble_eq_true rfl, Nat.le_of_ble_eq_true rfl⟩) ⟨CB.blind, va_recv hK hP (ci := 3) (q0 := 0) rfl cw_0, CB.pre hP hK hN rfl⟩ rfl rfl hl.1 rfl (lv_room (Nat.le_of_ble_eq_true rfl)) dL_turn_4 ⟨Nat.le_of_ble_eq_true rfl, Nat.le_of_ble_eq_true rfl⟩) hS (fun q h => Or.inl (cA_le hS.1 q h)) (fun q h => Or.inl (cA_le hS.1 q h)) (fun u9 H locs _ hP hkk hS => ?_)
  have hO := ow_kept hO hkk hao
  refine lv_i2l hx hb dL_turn_7 rfl ?_
  refine cx_lasto hx hb hK hP hO hAD hao (fun k hk => Or.inl (cA_in hk)) (Or.inr rfl) hS dL_turn_8 (fun H locs hP hO hS => ?_)
  refine lv_goto (tgt := 15) hx hb dL_turn_9 (by decide) ?_
  refine lv_iconst (v := 0) hx hb dL_turn_15 (by decide) ?_
  exact W.iret (v := 0) hx hb hr (fun t ht hW => ⟨⟨0, u9, rfl, ⟨rfl, trivial⟩, ⟨by show va_P _ _ _ _; rw [ht]; exact hP, by show va_P _ _ _ _; rw [ht]; exact hO⟩⟩, hS.F ht⟩) hS.2.2 dL_turn_16
set_option maxHeartbeats 4000000 in
set_option maxRecDepth 100000 in
theorem h_drop (l : Launch) (D : va_G) (T : Nat → ClassId) (ad : Nat → Nat) (I : Nat → Int32) (R : Nat → Nat → Int32) (sz : Nat) (ao : Nat) (g : Nat → Int64) (nx : Nat) (ct : Nat) (x : Int32) (hAD : AD 34 ad) (hnx : nx < 6) (hct : ct ≤ 6) (hI1 : I 1 = nI nx) (hI2 : I 2 = nI ct) (hx9 : outI x 1 99 = 0) (hao : ∀ k, k < 34 → ad k ≠ ao) : Met l yL_drop wsL_drop ({ frames := 4, cells := 0, slots := 0, locals := 83 }) (va_Pc [.ref (ad 0), .int x, .ref ao] (HB D T ad ao I R g sz)) (va_Qi (fun r (u9 : Unit) => r = 0 ∧ True) (fun (u9 : Unit) t => va_P D vwCl (cw T ad (pushI I nx ct) (updR (pushR R nx) 0 (doF (R 0) x))) t.heap ∧ va_P D vwCl (ow T ao (vp_updL g 0 (Int32.toInt64 (doS (R 0) x 8)))) t.heap) (hA ad ao sz)) 0 0 (hA ad ao sz) := by
  refine metH_ofW (cc := cL_drop) (maxL := 4) (ret := some .int) (by decide) rfl ?_
  intro p e s m args_ below meth c s₁ B hml hv
  obtain ⟨rfl, hsz, ⟨hP, hK, hN⟩, hO⟩ := hv
  have hx := B.exec
  have hb := B.bytes
  have hr := B.returns
  have hts := atoms_spec (ws := wsL_drop) B.pre
  have hown : s.vm.findClass RL = some m.cls := findClass_of_methodNamed B.named
  have hlocks := B.notSynchronized
  subst hsz
  have hS : va_S (hA ad ao s.heap.size) s.heap s.heap [] := va_S.rf
  have hl := lv_entry ([.ref (ad 0), .int x, .ref ao]) (n := 4) (Nat.le_of_ble_eq_true rfl)
  rw [lg_entry_eq]
  generalize (lg_sl ([.ref (ad 0), .int x, .ref ao]) ++ List.replicate (4 - (lg_sl ([.ref (ad 0), .int x, .ref ao])).length) Slot.unset).toArray = ls at hl ⊢
  have hl : lv_has ls 4 [(0, .ref (ad 0)), (1, .int x), (2, .ref ao)] := hl
  refine lv_aload_n hx hb dL_drop_0 rfl (lv_at hl 2 rfl) ?_
  refine lv_iconst (v := 0) hx hb dL_drop_1 (by decide) ?_
  refine lv_aload_n hx hb dL_drop_2 rfl (lv_at hl 0 rfl) ?_
  refine lv_iload_n hx hb dL_drop_3 rfl (lv_at hl 1 rfl) ?_
  refine cx_wi (va_runV (As := [.int x]) (rest := [.int 0, .ref ao]) ⟨hx, hb, hml, hown, hts⟩ (c_X3_drop l D T ad I R _ nx ct x hAD hnx hct hI1 hI2 hx9) (cwV 1 hts gL_drop_X3_drop rfl rfl rfl (by decide +kernel) ⟨Nat.le_of_ble_eq_true rfl, Nat.le_of_ble_eq_true rfl⟩) ⟨CB.blind, va_recv hK hP (ci := 3) (q0 := 0) rfl cw_0, CB.pre hP hK hN rfl⟩ rfl rfl hl.1 rfl (lv_room (Nat.le_of_ble_eq_true rfl)) dL_drop_4 ⟨Nat.le_of_ble_eq_true rfl, Nat.le_of_ble_eq_true rfl⟩) hS (fun q h => Or.inl (cA_le hS.1 q h)) (fun q h => Or.inl (cA_le hS.1 q h)) (fun u9 H locs _ hP hkk hS => ?_)
  have hO := ow_kept hO hkk hao
  refine lv_i2l hx hb dL_drop_7 rfl ?_
  refine cx_lasto hx hb hK hP hO hAD hao (fun k hk => Or.inl (cA_in hk)) (Or.inr rfl) hS dL_drop_8 (fun H locs hP hO hS => ?_)
  refine lv_goto (tgt := 15) hx hb dL_drop_9 (by decide) ?_
  refine lv_iconst (v := 0) hx hb dL_drop_15 (by decide) ?_
  exact W.iret (v := 0) hx hb hr (fun t ht hW => ⟨⟨0, u9, rfl, ⟨rfl, trivial⟩, ⟨by show va_P _ _ _ _; rw [ht]; exact hP, by show va_P _ _ _ _; rw [ht]; exact hO⟩⟩, hS.F ht⟩) hS.2.2 dL_drop_16
set_option maxHeartbeats 4000000 in
set_option maxRecDepth 100000 in
theorem h_point (l : Launch) (D : va_G) (T : Nat → ClassId) (ad : Nat → Nat) (I : Nat → Int32) (R : Nat → Nat → Int32) (sz : Nat) (ao : Nat) (g : Nat → Int64) (nx : Nat) (ct : Nat) (k : Nat) (x : Int32) (hAD : AD 34 ad) (hnx : nx < 6) (hct : ct ≤ 6) (hI1 : I 1 = nI nx) (hI2 : I 2 = nI ct) (hk : k < 8) (hx9 : outI x (-9999) 9999 = 0) (hao : ∀ k, k < 34 → ad k ≠ ao) : Met l yL_point wsL_point ({ frames := 4, cells := 0, slots := 0, locals := 83 }) (va_Pc [.ref (ad 0), .int (nI k), .int x, .ref ao] (HB D T ad ao I R g sz)) (va_Qi (fun r (u9 : Unit) => r = 0 ∧ True) (fun (u9 : Unit) t => va_P D vwCl (cw T ad (pushI I nx ct) (updR (pushR R nx) 1 (upd (R 1) k x))) t.heap ∧ va_P D vwCl (ow T ao (vp_updL g 0 (Int32.toInt64 (R 1 k)))) t.heap) (hA ad ao sz)) 0 0 (hA ad ao sz) := by
  refine metH_ofW (cc := cL_point) (maxL := 5) (ret := some .int) (by decide) rfl ?_
  intro p e s m args_ below meth c s₁ B hml hv
  obtain ⟨rfl, hsz, ⟨hP, hK, hN⟩, hO⟩ := hv
  have hx := B.exec
  have hb := B.bytes
  have hr := B.returns
  have hts := atoms_spec (ws := wsL_point) B.pre
  have hown : s.vm.findClass RL = some m.cls := findClass_of_methodNamed B.named
  have hlocks := B.notSynchronized
  subst hsz
  have hS : va_S (hA ad ao s.heap.size) s.heap s.heap [] := va_S.rf
  have hl := lv_entry ([.ref (ad 0), .int (nI k), .int x, .ref ao]) (n := 5) (Nat.le_of_ble_eq_true rfl)
  rw [lg_entry_eq]
  generalize (lg_sl ([.ref (ad 0), .int (nI k), .int x, .ref ao]) ++ List.replicate (5 - (lg_sl ([.ref (ad 0), .int (nI k), .int x, .ref ao])).length) Slot.unset).toArray = ls at hl ⊢
  have hl : lv_has ls 5 [(0, .ref (ad 0)), (1, .int (nI k)), (2, .int x), (3, .ref ao)] := hl
  refine lv_aload_n hx hb dL_point_0 rfl (lv_at hl 3 rfl) ?_
  refine lv_iconst (v := 0) hx hb dL_point_1 (by decide) ?_
  refine lv_aload_n hx hb dL_point_2 rfl (lv_at hl 0 rfl) ?_
  refine lv_iload_n hx hb dL_point_3 rfl (lv_at hl 1 rfl) ?_
  refine lv_iload_n hx hb dL_point_4 rfl (lv_at hl 2 rfl) ?_
  refine cx_wi (va_runV (As := [.int (nI k), .int x]) (rest := [.int 0, .ref ao]) ⟨hx, hb, hml, hown, hts⟩ (c_X3_point l D T ad I R _ nx ct k x hAD hnx hct hI1 hI2 hk hx9) (cwV 2 hts gL_point_X3_point rfl rfl rfl (by decide +kernel) ⟨Nat.le_of_ble_eq_true rfl, Nat.le_of_ble_eq_true rfl⟩) ⟨CB.blind, va_recv hK hP (ci := 3) (q0 := 0) rfl cw_0, CB.pre hP hK hN rfl⟩ rfl rfl hl.1 rfl (lv_room (Nat.le_of_ble_eq_true rfl)) dL_point_5 ⟨Nat.le_of_ble_eq_true rfl, Nat.le_of_ble_eq_true rfl⟩) hS (fun q h => Or.inl (cA_le hS.1 q h)) (fun q h => Or.inl (cA_le hS.1 q h)) (fun u9 H locs _ hP hkk hS => ?_)
  have hO := ow_kept hO hkk hao
  refine lv_i2l hx hb dL_point_8 rfl ?_
  refine cx_lasto hx hb hK hP hO hAD hao (fun k hk => Or.inl (cA_in hk)) (Or.inr rfl) hS dL_point_9 (fun H locs hP hO hS => ?_)
  refine lv_goto (tgt := 21) hx hb dL_point_10 (by decide) ?_
  refine lv_iconst (v := 0) hx hb dL_point_21 (by decide) ?_
  exact W.iret (v := 0) hx hb hr (fun t ht hW => ⟨⟨0, u9, rfl, ⟨rfl, trivial⟩, ⟨by show va_P _ _ _ _; rw [ht]; exact hP, by show va_P _ _ _ _; rw [ht]; exact hO⟩⟩, hS.F ht⟩) hS.2.2 dL_point_22
set_option maxHeartbeats 4000000 in
set_option maxRecDepth 100000 in
theorem h_append (l : Launch) (D : va_G) (T : Nat → ClassId) (ad : Nat → Nat) (I : Nat → Int32) (R : Nat → Nat → Int32) (sz : Nat) (ao : Nat) (g : Nat → Int64) (len : Nat) (q : Nat) (hAD : AD 34 ad) (hlen : len < 60) (hI3 : I 3 = nI len) (hq1 : 33 ≤ q) (hq2 : q ≤ 126) (hao : ∀ k, k < 34 → ad k ≠ ao) : Met l yL_append wsL_append ({ frames := 2, cells := 0, slots := 0, locals := 43 }) (va_Pc [.ref (ad 0), .int (nI q), .ref ao] (HB D T ad ao I R g sz)) (va_Qi (fun r (u9 : Unit) => r = 0 ∧ True) (fun (u9 : Unit) t => va_P D vwCl (cw T ad (upd I 3 (nI (len + 1))) (updR R 18 (upd (R 18) len (nI q)))) t.heap ∧ va_P D vwCl (ow T ao (vp_updL g 0 (Int32.toInt64 (nI (len + 1))))) t.heap) (hA ad ao sz)) 0 0 (hA ad ao sz) := by
  refine metH_ofW (cc := cL_append) (maxL := 4) (ret := some .int) (by decide) rfl ?_
  intro p e s m args_ below meth c s₁ B hml hv
  obtain ⟨rfl, hsz, ⟨hP, hK, hN⟩, hO⟩ := hv
  have hx := B.exec
  have hb := B.bytes
  have hr := B.returns
  have hts := atoms_spec (ws := wsL_append) B.pre
  have hown : s.vm.findClass RL = some m.cls := findClass_of_methodNamed B.named
  have hlocks := B.notSynchronized
  subst hsz
  have hS : va_S (hA ad ao s.heap.size) s.heap s.heap [] := va_S.rf
  have hl := lv_entry ([.ref (ad 0), .int (nI q), .ref ao]) (n := 4) (Nat.le_of_ble_eq_true rfl)
  rw [lg_entry_eq]
  generalize (lg_sl ([.ref (ad 0), .int (nI q), .ref ao]) ++ List.replicate (4 - (lg_sl ([.ref (ad 0), .int (nI q), .ref ao])).length) Slot.unset).toArray = ls at hl ⊢
  have hl : lv_has ls 4 [(0, .ref (ad 0)), (1, .int (nI q)), (2, .ref ao)] := hl
  refine lv_aload_n hx hb dL_append_0 rfl (lv_at hl 2 rfl) ?_
  refine lv_iconst (v := 0) hx hb dL_append_1 (by decide) ?_
  refine lv_aload_n hx hb dL_append_2 rfl (lv_at hl 0 rfl) ?_
  refine lv_iload_n hx hb dL_append_3 rfl (lv_at hl 1 rfl) ?_
  refine cx_wi (va_runV (As := [.int (nI q)]) (rest := [.int 0, .ref ao]) ⟨hx, hb, hml, hown, hts⟩ (c_X3_append l D T ad I R _ len q hAD hlen hI3 hq1 hq2) (cwV 1 hts gL_append_X3_append rfl rfl rfl (by decide +kernel) ⟨Nat.le_of_ble_eq_true rfl, Nat.le_of_ble_eq_true rfl⟩) ⟨CB.blind, va_recv hK hP (ci := 3) (q0 := 0) rfl cw_0, CB.pre hP hK hN rfl⟩ rfl rfl hl.1 rfl (lv_room (Nat.le_of_ble_eq_true rfl)) dL_append_4 ⟨Nat.le_of_ble_eq_true rfl, Nat.le_of_ble_eq_true rfl⟩) hS (fun q h => Or.inl (cA_le hS.1 q h)) (fun q h => Or.inl (cA_le hS.1 q h)) (fun u9 H locs _ hP hkk hS => ?_)
  have hO := ow_kept hO hkk hao
  refine lv_i2l hx hb dL_append_7 rfl ?_
  refine cx_lasto hx hb hK hP hO hAD hao (fun k hk => Or.inl (cA_in hk)) (Or.inr rfl) hS dL_append_8 (fun H locs hP hO hS => ?_)
  refine lv_goto (tgt := 18) hx hb dL_append_9 (by decide) ?_
  refine lv_iconst (v := 0) hx hb dL_append_18 (by decide) ?_
  exact W.iret (v := 0) hx hb hr (fun t ht hW => ⟨⟨0, u9, rfl, ⟨rfl, trivial⟩, ⟨by show va_P _ _ _ _; rw [ht]; exact hP, by show va_P _ _ _ _; rw [ht]; exact hO⟩⟩, hS.F ht⟩) hS.2.2 dL_append_19
set_option maxHeartbeats 4000000 in
set_option maxRecDepth 100000 in
theorem h_load (l : Launch) (D : va_G) (T : Nat → ClassId) (ad : Nat → Nat) (I : Nat → Int32) (R : Nat → Nat → Int32) (sz : Nat) (ao : Nat) (g : Nat → Int64) (nx : Nat) (ct : Nat) (len : Nat) (hAD : AD 34 ad) (hnx : nx < 6) (hct : ct ≤ 6) (hI1 : I 1 = nI nx) (hI2 : I 2 = nI ct) (hlen : len ≤ 60) (hI3 : I 3 = nI len) (htw : twF (plS (R 18) len) = 1) (hao : ∀ k, k < 34 → ad k ≠ ao) : Met l yL_load wsL_load ({ frames := 5, cells := 0, slots := 0, locals := 103 }) (va_Pc [.ref (ad 0), .ref ao] (HB D T ad ao I R g sz)) (va_Qi (fun r (u9 : Unit) => r = 0 ∧ True) (fun (u9 : Unit) t => va_P D vwCl (cw T ad (upd (upd (pushI I nx ct) 4 (nI (tt (R 18) len).2.1)) 3 0) (updR (pushR R nx) 0 ((tt (R 18) len).1))) t.heap ∧ va_P D vwCl (ow T ao (vp_updL g 0 (Int32.toInt64 (cnS (tt (R 18) len).1 8)))) t.heap) (hA ad ao sz)) 0 0 (hA ad ao sz) := by
  refine metH_ofW (cc := cL_load) (maxL := 3) (ret := some .int) (by decide) rfl ?_
  intro p e s m args_ below meth c s₁ B hml hv
  obtain ⟨rfl, hsz, ⟨hP, hK, hN⟩, hO⟩ := hv
  have hx := B.exec
  have hb := B.bytes
  have hr := B.returns
  have hts := atoms_spec (ws := wsL_load) B.pre
  have hown : s.vm.findClass RL = some m.cls := findClass_of_methodNamed B.named
  have hlocks := B.notSynchronized
  subst hsz
  have hS : va_S (hA ad ao s.heap.size) s.heap s.heap [] := va_S.rf
  have hl := lv_entry ([.ref (ad 0), .ref ao]) (n := 3) (Nat.le_of_ble_eq_true rfl)
  rw [lg_entry_eq]
  generalize (lg_sl ([.ref (ad 0), .ref ao]) ++ List.replicate (3 - (lg_sl ([.ref (ad 0), .ref ao])).length) Slot.unset).toArray = ls at hl ⊢
  have hl : lv_has ls 3 [(0, .ref (ad 0)), (1, .ref ao)] := hl
  refine lv_aload_n hx hb dL_load_0 rfl (lv_at hl 1 rfl) ?_
  refine lv_iconst (v := 0) hx hb dL_load_1 (by decide) ?_
  refine lv_aload_n hx hb dL_load_2 rfl (lv_at hl 0 rfl) ?_
  refine cx_wi (va_runV (As := []) (rest := [.int 0, .ref ao]) ⟨hx, hb, hml, hown, hts⟩ (c_X3_load l D T ad I R _ nx ct len hAD hnx hct hI1 hI2 hlen hI3 htw) (cwV 0 hts gL_load_X3_load rfl rfl rfl (by decide +kernel) ⟨Nat.le_of_ble_eq_true rfl, Nat.le_of_ble_eq_true rfl⟩) ⟨CB.blind, va_recv hK hP (ci := 3) (q0 := 0) rfl cw_0, CB.pre hP hK hN rfl⟩ rfl rfl hl.1 rfl (lv_room (Nat.le_of_ble_eq_true rfl)) dL_load_3 ⟨Nat.le_of_ble_eq_true rfl, Nat.le_of_ble_eq_true rfl⟩) hS (fun q h => Or.inl (cA_le hS.1 q h)) (fun q h => Or.inl (cA_le hS.1 q h)) (fun u9 H locs _ hP hkk hS => ?_)
  have hO := ow_kept hO hkk hao
  refine lv_i2l hx hb dL_load_6 rfl ?_
  refine cx_lasto hx hb hK hP hO hAD hao (fun k hk => Or.inl (cA_in hk)) (Or.inr rfl) hS dL_load_7 (fun H locs hP hO hS => ?_)
  refine lv_goto (tgt := 14) hx hb dL_load_8 (by decide) ?_
  refine lv_iconst (v := 0) hx hb dL_load_14 (by decide) ?_
  exact W.iret (v := 0) hx hb hr (fun t ht hW => ⟨⟨0, u9, rfl, ⟨rfl, trivial⟩, ⟨by show va_P _ _ _ _; rw [ht]; exact hP, by show va_P _ _ _ _; rw [ht]; exact hO⟩⟩, hS.F ht⟩) hS.2.2 dL_load_15
set_option maxHeartbeats 4000000 in
set_option maxRecDepth 100000 in
theorem h_keep (l : Launch) (D : va_G) (T : Nat → ClassId) (ad : Nat → Nat) (I : Nat → Int32) (R : Nat → Nat → Int32) (sz : Nat) (ao : Nat) (g : Nat → Int64) (ks : Nat) (k : Nat) (hAD : AD 34 ad) (hks : ks < 4) (hIk : I 0 = nI ks) (hk : k < 2) (hao : ∀ k, k < 34 → ad k ≠ ao) : Met l yL_keep wsL_keep ({ frames := 3, cells := 0, slots := 0, locals := 60 }) (va_Pc [.ref (ad 0), .int (nI k), .ref ao] (HB D T ad ao I R g sz)) (va_Qi (fun r (u9 : Unit) => r = 0 ∧ True) (fun (u9 : Unit) t => va_P D vwCl (cw T ad (upd (tkI I (k + 7) 0) 0 (nI (ks ||| 2 ^ k))) (tkR R (k + 7) 0)) t.heap ∧ va_P D vwCl (ow T ao (vp_updL g 0 (Int32.toInt64 (cnS (R 0) 8)))) t.heap) (hA ad ao sz)) 0 0 (hA ad ao sz) := by
  refine metH_ofW (cc := cL_keep) (maxL := 4) (ret := some .int) (by decide) rfl ?_
  intro p e s m args_ below meth c s₁ B hml hv
  obtain ⟨rfl, hsz, ⟨hP, hK, hN⟩, hO⟩ := hv
  have hx := B.exec
  have hb := B.bytes
  have hr := B.returns
  have hts := atoms_spec (ws := wsL_keep) B.pre
  have hown : s.vm.findClass RL = some m.cls := findClass_of_methodNamed B.named
  have hlocks := B.notSynchronized
  subst hsz
  have hS : va_S (hA ad ao s.heap.size) s.heap s.heap [] := va_S.rf
  have hl := lv_entry ([.ref (ad 0), .int (nI k), .ref ao]) (n := 4) (Nat.le_of_ble_eq_true rfl)
  rw [lg_entry_eq]
  generalize (lg_sl ([.ref (ad 0), .int (nI k), .ref ao]) ++ List.replicate (4 - (lg_sl ([.ref (ad 0), .int (nI k), .ref ao])).length) Slot.unset).toArray = ls at hl ⊢
  have hl : lv_has ls 4 [(0, .ref (ad 0)), (1, .int (nI k)), (2, .ref ao)] := hl
  refine lv_aload_n hx hb dL_keep_0 rfl (lv_at hl 2 rfl) ?_
  refine lv_iconst (v := 0) hx hb dL_keep_1 (by decide) ?_
  refine lv_aload_n hx hb dL_keep_2 rfl (lv_at hl 0 rfl) ?_
  refine lv_iload_n hx hb dL_keep_3 rfl (lv_at hl 1 rfl) ?_
  refine cx_wi (va_runV (As := [.int (nI k)]) (rest := [.int 0, .ref ao]) ⟨hx, hb, hml, hown, hts⟩ (c_X3_keep l D T ad I R _ ks k hAD hks hIk hk) (cwV 1 hts gL_keep_X3_keep rfl rfl rfl (by decide +kernel) ⟨Nat.le_of_ble_eq_true rfl, Nat.le_of_ble_eq_true rfl⟩) ⟨CB.blind, va_recv hK hP (ci := 3) (q0 := 0) rfl cw_0, CB.pre hP hK hN rfl⟩ rfl rfl hl.1 rfl (lv_room (Nat.le_of_ble_eq_true rfl)) dL_keep_4 ⟨Nat.le_of_ble_eq_true rfl, Nat.le_of_ble_eq_true rfl⟩) hS (fun q h => Or.inl (cA_le hS.1 q h)) (fun q h => Or.inl (cA_le hS.1 q h)) (fun u9 H locs _ hP hkk hS => ?_)
  have hO := ow_kept hO hkk hao
  refine lv_i2l hx hb dL_keep_7 rfl ?_
  refine cx_lasto hx hb hK hP hO hAD hao (fun k hk => Or.inl (cA_in hk)) (Or.inr rfl) hS dL_keep_8 (fun H locs hP hO hS => ?_)
  refine lv_goto (tgt := 15) hx hb dL_keep_9 (by decide) ?_
  refine lv_iconst (v := 0) hx hb dL_keep_15 (by decide) ?_
  exact W.iret (v := 0) hx hb hr (fun t ht hW => ⟨⟨0, u9, rfl, ⟨rfl, trivial⟩, ⟨by show va_P _ _ _ _; rw [ht]; exact hP, by show va_P _ _ _ _; rw [ht]; exact hO⟩⟩, hS.F ht⟩) hS.2.2 dL_keep_16
set_option maxHeartbeats 4000000 in
set_option maxRecDepth 100000 in
theorem h_goBack (l : Launch) (D : va_G) (T : Nat → ClassId) (ad : Nat → Nat) (I : Nat → Int32) (R : Nat → Nat → Int32) (sz : Nat) (ao : Nat) (g : Nat → Int64) (nx : Nat) (ct : Nat) (ks : Nat) (k : Nat) (hAD : AD 34 ad) (hnx : nx < 6) (hct : ct ≤ 6) (hI1 : I 1 = nI nx) (hI2 : I 2 = nI ct) (hks : ks < 4) (hIk : I 0 = nI ks) (hk : k < 2) (hsn : lbI ks k = 1) (hao : ∀ k, k < 34 → ad k ≠ ao) : Met l yL_goBack wsL_goBack ({ frames := 4, cells := 0, slots := 0, locals := 81 }) (va_Pc [.ref (ad 0), .int (nI k), .ref ao] (HB D T ad ao I R g sz)) (va_Qi (fun r (u9 : Unit) => r = 0 ∧ True) (fun (u9 : Unit) t => va_P D vwCl (cw T ad (tkI (pushI I nx ct) 0 (k + 7)) (tkR (pushR R nx) 0 (k + 7))) t.heap ∧ va_P D vwCl (ow T ao (vp_updL g 0 (Int32.toInt64 (cnS (R (2 * (k + 7))) 8)))) t.heap) (hA ad ao sz)) 0 0 (hA ad ao sz) := by
  refine metH_ofW (cc := cL_goBack) (maxL := 4) (ret := some .int) (by decide) rfl ?_
  intro p e s m args_ below meth c s₁ B hml hv
  obtain ⟨rfl, hsz, ⟨hP, hK, hN⟩, hO⟩ := hv
  have hx := B.exec
  have hb := B.bytes
  have hr := B.returns
  have hts := atoms_spec (ws := wsL_goBack) B.pre
  have hown : s.vm.findClass RL = some m.cls := findClass_of_methodNamed B.named
  have hlocks := B.notSynchronized
  subst hsz
  have hS : va_S (hA ad ao s.heap.size) s.heap s.heap [] := va_S.rf
  have hl := lv_entry ([.ref (ad 0), .int (nI k), .ref ao]) (n := 4) (Nat.le_of_ble_eq_true rfl)
  rw [lg_entry_eq]
  generalize (lg_sl ([.ref (ad 0), .int (nI k), .ref ao]) ++ List.replicate (4 - (lg_sl ([.ref (ad 0), .int (nI k), .ref ao])).length) Slot.unset).toArray = ls at hl ⊢
  have hl : lv_has ls 4 [(0, .ref (ad 0)), (1, .int (nI k)), (2, .ref ao)] := hl
  refine lv_aload_n hx hb dL_goBack_0 rfl (lv_at hl 2 rfl) ?_
  refine lv_iconst (v := 0) hx hb dL_goBack_1 (by decide) ?_
  refine lv_aload_n hx hb dL_goBack_2 rfl (lv_at hl 0 rfl) ?_
  refine lv_iload_n hx hb dL_goBack_3 rfl (lv_at hl 1 rfl) ?_
  refine cx_wi (va_runV (As := [.int (nI k)]) (rest := [.int 0, .ref ao]) ⟨hx, hb, hml, hown, hts⟩ (c_X3_goBack l D T ad I R _ nx ct ks k hAD hnx hct hI1 hI2 hks hIk hk hsn) (cwV 1 hts gL_goBack_X3_goBack rfl rfl rfl (by decide +kernel) ⟨Nat.le_of_ble_eq_true rfl, Nat.le_of_ble_eq_true rfl⟩) ⟨CB.blind, va_recv hK hP (ci := 3) (q0 := 0) rfl cw_0, CB.pre hP hK hN rfl⟩ rfl rfl hl.1 rfl (lv_room (Nat.le_of_ble_eq_true rfl)) dL_goBack_4 ⟨Nat.le_of_ble_eq_true rfl, Nat.le_of_ble_eq_true rfl⟩) hS (fun q h => Or.inl (cA_le hS.1 q h)) (fun q h => Or.inl (cA_le hS.1 q h)) (fun u9 H locs _ hP hkk hS => ?_)
  have hO := ow_kept hO hkk hao
  refine lv_i2l hx hb dL_goBack_7 rfl ?_
  refine cx_lasto hx hb hK hP hO hAD hao (fun k hk => Or.inl (cA_in hk)) (Or.inr rfl) hS dL_goBack_8 (fun H locs hP hO hS => ?_)
  refine lv_goto (tgt := 18) hx hb dL_goBack_9 (by decide) ?_
  refine lv_iconst (v := 0) hx hb dL_goBack_18 (by decide) ?_
  exact W.iret (v := 0) hx hb hr (fun t ht hW => ⟨⟨0, u9, rfl, ⟨rfl, trivial⟩, ⟨by show va_P _ _ _ _; rw [ht]; exact hP, by show va_P _ _ _ _; rw [ht]; exact hO⟩⟩, hS.F ht⟩) hS.2.2 dL_goBack_19
set_option maxHeartbeats 4000000 in
set_option maxRecDepth 100000 in
theorem h_undo (l : Launch) (D : va_G) (T : Nat → ClassId) (ad : Nat → Nat) (I : Nat → Int32) (R : Nat → Nat → Int32) (sz : Nat) (ao : Nat) (g : Nat → Int64) (nx : Nat) (ct : Nat) (hAD : AD 34 ad) (hnx : nx < 6) (hct : ct ≤ 6) (hI1 : I 1 = nI nx) (hI2 : I 2 = nI ct) (hct0 : 0 < ct) (hao : ∀ k, k < 34 → ad k ≠ ao) : Met l yL_undo wsL_undo ({ frames := 4, cells := 0, slots := 0, locals := 80 }) (va_Pc [.ref (ad 0), .ref ao] (HB D T ad ao I R g sz)) (va_Qi (fun r (u9 : Unit) => r = 0 ∧ True) (fun (u9 : Unit) t => va_P D vwCl (cw T ad (popI I nx ct) (popR R nx)) t.heap ∧ va_P D vwCl (ow T ao (vp_updL g 0 (Int32.toInt64 (nI (ct - 1))))) t.heap) (hA ad ao sz)) 0 0 (hA ad ao sz) := by
  refine metH_ofW (cc := cL_undo) (maxL := 3) (ret := some .int) (by decide) rfl ?_
  intro p e s m args_ below meth c s₁ B hml hv
  obtain ⟨rfl, hsz, ⟨hP, hK, hN⟩, hO⟩ := hv
  have hx := B.exec
  have hb := B.bytes
  have hr := B.returns
  have hts := atoms_spec (ws := wsL_undo) B.pre
  have hown : s.vm.findClass RL = some m.cls := findClass_of_methodNamed B.named
  have hlocks := B.notSynchronized
  subst hsz
  have hS : va_S (hA ad ao s.heap.size) s.heap s.heap [] := va_S.rf
  have hl := lv_entry ([.ref (ad 0), .ref ao]) (n := 3) (Nat.le_of_ble_eq_true rfl)
  rw [lg_entry_eq]
  generalize (lg_sl ([.ref (ad 0), .ref ao]) ++ List.replicate (3 - (lg_sl ([.ref (ad 0), .ref ao])).length) Slot.unset).toArray = ls at hl ⊢
  have hl : lv_has ls 3 [(0, .ref (ad 0)), (1, .ref ao)] := hl
  refine lv_aload_n hx hb dL_undo_0 rfl (lv_at hl 1 rfl) ?_
  refine lv_iconst (v := 0) hx hb dL_undo_1 (by decide) ?_
  refine lv_aload_n hx hb dL_undo_2 rfl (lv_at hl 0 rfl) ?_
  refine cx_wi (va_runV (As := []) (rest := [.int 0, .ref ao]) ⟨hx, hb, hml, hown, hts⟩ (c_X3_undo l D T ad I R _ nx ct hAD hnx hct hI1 hI2 hct0) (cwV 0 hts gL_undo_X3_undo rfl rfl rfl (by decide +kernel) ⟨Nat.le_of_ble_eq_true rfl, Nat.le_of_ble_eq_true rfl⟩) ⟨CB.blind, va_recv hK hP (ci := 3) (q0 := 0) rfl cw_0, CB.pre hP hK hN rfl⟩ rfl rfl hl.1 rfl (lv_room (Nat.le_of_ble_eq_true rfl)) dL_undo_3 ⟨Nat.le_of_ble_eq_true rfl, Nat.le_of_ble_eq_true rfl⟩) hS (fun q h => Or.inl (cA_le hS.1 q h)) (fun q h => Or.inl (cA_le hS.1 q h)) (fun u9 H locs _ hP hkk hS => ?_)
  have hO := ow_kept hO hkk hao
  refine lv_i2l hx hb dL_undo_6 rfl ?_
  refine cx_lasto hx hb hK hP hO hAD hao (fun k hk => Or.inl (cA_in hk)) (Or.inr rfl) hS dL_undo_7 (fun H locs hP hO hS => ?_)
  refine lv_goto (tgt := 14) hx hb dL_undo_8 (by decide) ?_
  refine lv_iconst (v := 0) hx hb dL_undo_14 (by decide) ?_
  exact W.iret (v := 0) hx hb hr (fun t ht hW => ⟨⟨0, u9, rfl, ⟨rfl, trivial⟩, ⟨by show va_P _ _ _ _; rw [ht]; exact hP, by show va_P _ _ _ _; rw [ht]; exact hO⟩⟩, hS.F ht⟩) hS.2.2 dL_undo_15
set_option maxHeartbeats 4000000 in
set_option maxRecDepth 100000 in
theorem h_wheelOf (l : Launch) (D : va_G) (T : Nat → ClassId) (ad : Nat → Nat) (I : Nat → Int32) (R : Nat → Nat → Int32) (sz : Nat) (ao : Nat) (g : Nat → Int64) (lm : Nat) (k : Nat) (w : Nat) (hAD : AD 34 ad) (hm : lm < 256) (hI : I 4 = nI lm) (hk : k < 8) (hw : w < 4) (hao : ∀ k, k < 34 → ad k ≠ ao) : Met l yL_wheelOf wsL_wheelOf ({ frames := 5, cells := 0, slots := 0, locals := 108 }) (va_Pc [.ref (ad 0), .int (nI k), .int (nI w), .ref ao] (HB D T ad ao I R g sz)) (va_Qi (fun r (u9 : Unit) => r = 0 ∧ True) (fun (u9 : Unit) t => va_P D vwCl (cw T ad I R) t.heap ∧ va_P D vwCl (ow T ao (vp_updL g 0 (Int32.toInt64 (wnF (R 0) (R 1) lm k w)))) t.heap) (hA ad ao sz)) 0 0 (hA ad ao sz) := by
  refine metH_ofW (cc := cL_wheelOf) (maxL := 5) (ret := some .int) (by decide) rfl ?_
  intro p e s m args_ below meth c s₁ B hml hv
  obtain ⟨rfl, hsz, ⟨hP, hK, hN⟩, hO⟩ := hv
  have hx := B.exec
  have hb := B.bytes
  have hr := B.returns
  have hts := atoms_spec (ws := wsL_wheelOf) B.pre
  have hown : s.vm.findClass RL = some m.cls := findClass_of_methodNamed B.named
  have hlocks := B.notSynchronized
  subst hsz
  have hS : va_S (hA ad ao s.heap.size) s.heap s.heap [] := va_S.rf
  have hl := lv_entry ([.ref (ad 0), .int (nI k), .int (nI w), .ref ao]) (n := 5) (Nat.le_of_ble_eq_true rfl)
  rw [lg_entry_eq]
  generalize (lg_sl ([.ref (ad 0), .int (nI k), .int (nI w), .ref ao]) ++ List.replicate (5 - (lg_sl ([.ref (ad 0), .int (nI k), .int (nI w), .ref ao])).length) Slot.unset).toArray = ls at hl ⊢
  have hl : lv_has ls 5 [(0, .ref (ad 0)), (1, .int (nI k)), (2, .int (nI w)), (3, .ref ao)] := hl
  refine lv_aload_n hx hb dL_wheelOf_0 rfl (lv_at hl 3 rfl) ?_
  refine lv_iconst (v := 0) hx hb dL_wheelOf_1 (by decide) ?_
  refine lv_aload_n hx hb dL_wheelOf_2 rfl (lv_at hl 0 rfl) ?_
  refine lv_iload_n hx hb dL_wheelOf_3 rfl (lv_at hl 1 rfl) ?_
  refine lv_iload_n hx hb dL_wheelOf_4 rfl (lv_at hl 2 rfl) ?_
  refine cx_ri (va_runV (As := [.int (nI k), .int (nI w)]) (rest := [.int 0, .ref ao]) ⟨hx, hb, hml, hown, hts⟩ (c_X3_wheelOf l D T ad I R lm k w hm hI hk hw) (cwV 2 hts gL_wheelOf_X3_wheelOf rfl rfl rfl (by decide +kernel) ⟨Nat.le_of_ble_eq_true rfl, Nat.le_of_ble_eq_true rfl⟩) ⟨CR.blind, va_recv hK hP (ci := 3) (q0 := 0) rfl cw_0, CR.pre hP hK hN rfl⟩ rfl rfl hl.1 rfl (lv_room (Nat.le_of_ble_eq_true rfl)) dL_wheelOf_5 ⟨Nat.le_of_ble_eq_true rfl, Nat.le_of_ble_eq_true rfl⟩) hS (hP.app hO) (fun H locs hP1 hS => ?_)
  have hP : va_P D vwCl (cw T ad I R) H := hP1.sub (List.range 34) rfl
  have hO : va_P D vwCl (ow T ao g) H := hP1.sub [34] rfl
  refine lv_i2l hx hb dL_wheelOf_8 rfl ?_
  refine cx_lasto hx hb hK hP hO hAD hao (fun k hk => Or.inl (cA_in hk)) (Or.inr rfl) hS dL_wheelOf_9 (fun H locs hP hO hS => ?_)
  refine lv_goto (tgt := 21) hx hb dL_wheelOf_10 (by decide) ?_
  refine lv_iconst (v := 0) hx hb dL_wheelOf_21 (by decide) ?_
  exact W.iret (v := 0) hx hb hr (fun t ht hW => ⟨⟨0, (), rfl, ⟨rfl, trivial⟩, ⟨by show va_P _ _ _ _; rw [ht]; exact hP, by show va_P _ _ _ _; rw [ht]; exact hO⟩⟩, hS.F ht⟩) hS.2.2 dL_wheelOf_22
set_option maxHeartbeats 4000000 in
set_option maxRecDepth 100000 in
theorem h_trace0 (l : Launch) (D : va_G) (T : Nat → ClassId) (ad : Nat → Nat) (I : Nat → Int32) (R : Nat → Nat → Int32) (sz : Nat) (ao : Nat) (g : Nat → Int64) (lm : Nat) (n : Nat) (hAD : AD 34 ad) (hm : lm < 256) (hI : I 4 = nI lm) (hn : n < 8) (hao : ∀ k, k < 34 → ad k ≠ ao) : Met l yL_trace wsL_trace ({ frames := 5, cells := 0, slots := 0, locals := 110 }) (va_Pc [.ref (ad 0), .int (nI n), .int 0, .ref ao] (HB D T ad ao I R g sz)) (va_Qi (fun r (u9 : Unit) => r = 0 ∧ True) (fun (u9 : Unit) t => va_P D vwCl (cw T ad I R) t.heap ∧ va_P D vwCl (ow T ao (vp_updL g 0 (Int32.toInt64 (trS (dr (R 0) lm) n 8)))) t.heap) (hA ad ao sz)) 0 0 (hA ad ao sz) := by
  refine metH_ofW (cc := cL_trace) (maxL := 5) (ret := some .int) (by decide) rfl ?_
  intro p e s m args_ below meth c s₁ B hml hv
  obtain ⟨rfl, hsz, ⟨hP, hK, hN⟩, hO⟩ := hv
  have hx := B.exec
  have hb := B.bytes
  have hr := B.returns
  have hts := atoms_spec (ws := wsL_trace) B.pre
  have hown : s.vm.findClass RL = some m.cls := findClass_of_methodNamed B.named
  have hlocks := B.notSynchronized
  subst hsz
  have hS : va_S (hA ad ao s.heap.size) s.heap s.heap [] := va_S.rf
  have hl := lv_entry ([.ref (ad 0), .int (nI n), .int 0, .ref ao]) (n := 5) (Nat.le_of_ble_eq_true rfl)
  rw [lg_entry_eq]
  generalize (lg_sl ([.ref (ad 0), .int (nI n), .int 0, .ref ao]) ++ List.replicate (5 - (lg_sl ([.ref (ad 0), .int (nI n), .int 0, .ref ao])).length) Slot.unset).toArray = ls at hl ⊢
  have hl : lv_has ls 5 [(0, .ref (ad 0)), (1, .int (nI n)), (2, .int 0), (3, .ref ao)] := hl
  refine lv_aload_n hx hb dL_trace_0 rfl (lv_at hl 3 rfl) ?_
  refine lv_iconst (v := 0) hx hb dL_trace_1 (by decide) ?_
  refine lv_aload_n hx hb dL_trace_2 rfl (lv_at hl 0 rfl) ?_
  refine lv_iload_n hx hb dL_trace_3 rfl (lv_at hl 1 rfl) ?_
  refine lv_iload_n hx hb dL_trace_4 rfl (lv_at hl 2 rfl) ?_
  refine cx_ri (va_runV (As := [.int (nI n), .int 0]) (rest := [.int 0, .ref ao]) ⟨hx, hb, hml, hown, hts⟩ (c_X3_trace0 l D T ad I R lm n hm hI hn) (cwV 2 hts gL_trace_X3_trace rfl rfl rfl (by decide +kernel) ⟨Nat.le_of_ble_eq_true rfl, Nat.le_of_ble_eq_true rfl⟩) ⟨CR.blind, va_recv hK hP (ci := 3) (q0 := 0) rfl cw_0, CR.pre hP hK hN rfl⟩ rfl rfl hl.1 rfl (lv_room (Nat.le_of_ble_eq_true rfl)) dL_trace_5 ⟨Nat.le_of_ble_eq_true rfl, Nat.le_of_ble_eq_true rfl⟩) hS (hP.app hO) (fun H locs hP1 hS => ?_)
  have hP : va_P D vwCl (cw T ad I R) H := hP1.sub (List.range 34) rfl
  have hO : va_P D vwCl (ow T ao g) H := hP1.sub [34] rfl
  refine lv_i2l hx hb dL_trace_8 rfl ?_
  refine cx_lasto hx hb hK hP hO hAD hao (fun k hk => Or.inl (cA_in hk)) (Or.inr rfl) hS dL_trace_9 (fun H locs hP hO hS => ?_)
  refine lv_goto (tgt := 21) hx hb dL_trace_10 (by decide) ?_
  refine lv_iconst (v := 0) hx hb dL_trace_21 (by decide) ?_
  exact W.iret (v := 0) hx hb hr (fun t ht hW => ⟨⟨0, (), rfl, ⟨rfl, trivial⟩, ⟨by show va_P _ _ _ _; rw [ht]; exact hP, by show va_P _ _ _ _; rw [ht]; exact hO⟩⟩, hS.F ht⟩) hS.2.2 dL_trace_22
set_option maxHeartbeats 4000000 in
set_option maxRecDepth 100000 in
theorem h_trace1 (l : Launch) (D : va_G) (T : Nat → ClassId) (ad : Nat → Nat) (I : Nat → Int32) (R : Nat → Nat → Int32) (sz : Nat) (ao : Nat) (g : Nat → Int64) (lm : Nat) (n : Nat) (hAD : AD 34 ad) (hm : lm < 256) (hI : I 4 = nI lm) (hn : n < 8) (hao : ∀ k, k < 34 → ad k ≠ ao) : Met l yL_trace wsL_trace ({ frames := 4, cells := 0, slots := 0, locals := 87 }) (va_Pc [.ref (ad 0), .int (nI n), .int 1, .ref ao] (HB D T ad ao I R g sz)) (va_Qi (fun r (f : Nat → Int32) => r = 0 ∧ True) (fun (f : Nat → Int32) t => va_P D vwCl (cw T ad I (updR R 19 f)) t.heap ∧ va_P D vwCl (ow T ao (vp_updL g 0 (Int32.toInt64 (trS (dr (R 0) lm) n 8)))) t.heap) (hA ad ao sz)) 0 0 (hA ad ao sz) := by
  refine metH_ofW (cc := cL_trace) (maxL := 5) (ret := some .int) (by decide) rfl ?_
  intro p e s m args_ below meth c s₁ B hml hv
  obtain ⟨rfl, hsz, ⟨hP, hK, hN⟩, hO⟩ := hv
  have hx := B.exec
  have hb := B.bytes
  have hr := B.returns
  have hts := atoms_spec (ws := wsL_trace) B.pre
  have hown : s.vm.findClass RL = some m.cls := findClass_of_methodNamed B.named
  have hlocks := B.notSynchronized
  subst hsz
  have hS : va_S (hA ad ao s.heap.size) s.heap s.heap [] := va_S.rf
  have hl := lv_entry ([.ref (ad 0), .int (nI n), .int 1, .ref ao]) (n := 5) (Nat.le_of_ble_eq_true rfl)
  rw [lg_entry_eq]
  generalize (lg_sl ([.ref (ad 0), .int (nI n), .int 1, .ref ao]) ++ List.replicate (5 - (lg_sl ([.ref (ad 0), .int (nI n), .int 1, .ref ao])).length) Slot.unset).toArray = ls at hl ⊢
  have hl : lv_has ls 5 [(0, .ref (ad 0)), (1, .int (nI n)), (2, .int 1), (3, .ref ao)] := hl
  refine lv_aload_n hx hb dL_trace_0 rfl (lv_at hl 3 rfl) ?_
  refine lv_iconst (v := 0) hx hb dL_trace_1 (by decide) ?_
  refine lv_aload_n hx hb dL_trace_2 rfl (lv_at hl 0 rfl) ?_
  refine lv_iload_n hx hb dL_trace_3 rfl (lv_at hl 1 rfl) ?_
  refine lv_iload_n hx hb dL_trace_4 rfl (lv_at hl 2 rfl) ?_
  refine cx_wi (va_runV (As := [.int (nI n), .int 1]) (rest := [.int 0, .ref ao]) ⟨hx, hb, hml, hown, hts⟩ (c_X3_trace1 l D T ad I R _ lm n hAD hm hI hn) (cwV 2 hts gL_trace_X3_trace rfl rfl rfl (by decide +kernel) ⟨Nat.le_of_ble_eq_true rfl, Nat.le_of_ble_eq_true rfl⟩) ⟨CB.blind, va_recv hK hP (ci := 3) (q0 := 0) rfl cw_0, CB.pre hP hK hN rfl⟩ rfl rfl hl.1 rfl (lv_room (Nat.le_of_ble_eq_true rfl)) dL_trace_5 ⟨Nat.le_of_ble_eq_true rfl, Nat.le_of_ble_eq_true rfl⟩) hS (fun q h => Or.inl (cA_le hS.1 q h)) (fun q h => Or.inl (cA_le hS.1 q h)) (fun f H locs _ hP hkk hS => ?_)
  have hO := ow_kept hO hkk hao
  refine lv_i2l hx hb dL_trace_8 rfl ?_
  refine cx_lasto hx hb hK hP hO hAD hao (fun k hk => Or.inl (cA_in hk)) (Or.inr rfl) hS dL_trace_9 (fun H locs hP hO hS => ?_)
  refine lv_goto (tgt := 21) hx hb dL_trace_10 (by decide) ?_
  refine lv_iconst (v := 0) hx hb dL_trace_21 (by decide) ?_
  exact W.iret (v := 0) hx hb hr (fun t ht hW => ⟨⟨0, f, rfl, ⟨rfl, trivial⟩, ⟨by show va_P _ _ _ _; rw [ht]; exact hP, by show va_P _ _ _ _; rw [ht]; exact hO⟩⟩, hS.F ht⟩) hS.2.2 dL_trace_22
set_option maxHeartbeats 4000000 in
set_option maxRecDepth 100000 in
theorem h_pointOf (l : Launch) (D : va_G) (T : Nat → ClassId) (ad : Nat → Nat) (I : Nat → Int32) (R : Nat → Nat → Int32) (sz : Nat) (ao : Nat) (g : Nat → Int64) (lm : Nat) (n : Nat) (w : Nat) (hAD : AD 34 ad) (hm : lm < 256) (hI : I 4 = nI lm) (hn : n < 8) (hw : w < 3) (hao : ∀ k, k < 34 → ad k ≠ ao) : Met l yL_pointOf wsL_pointOf ({ frames := 6, cells := 0, slots := 0, locals := 130 }) (va_Pc [.ref (ad 0), .int (nI n), .int (nI w), .ref ao] (HB D T ad ao I R g sz)) (va_Qi (fun r (u9 : Unit) => r = 0 ∧ True) (fun (u9 : Unit) t => va_P D vwCl (cw T ad I R) t.heap ∧ va_P D vwCl (ow T ao (vp_updL g 0 (Int32.toInt64 (pnF (R 1) (dr (R 0) lm) n w)))) t.heap) (hA ad ao sz)) 0 0 (hA ad ao sz) := by
  refine metH_ofW (cc := cL_pointOf) (maxL := 5) (ret := some .int) (by decide) rfl ?_
  intro p e s m args_ below meth c s₁ B hml hv
  obtain ⟨rfl, hsz, ⟨hP, hK, hN⟩, hO⟩ := hv
  have hx := B.exec
  have hb := B.bytes
  have hr := B.returns
  have hts := atoms_spec (ws := wsL_pointOf) B.pre
  have hown : s.vm.findClass RL = some m.cls := findClass_of_methodNamed B.named
  have hlocks := B.notSynchronized
  subst hsz
  have hS : va_S (hA ad ao s.heap.size) s.heap s.heap [] := va_S.rf
  have hl := lv_entry ([.ref (ad 0), .int (nI n), .int (nI w), .ref ao]) (n := 5) (Nat.le_of_ble_eq_true rfl)
  rw [lg_entry_eq]
  generalize (lg_sl ([.ref (ad 0), .int (nI n), .int (nI w), .ref ao]) ++ List.replicate (5 - (lg_sl ([.ref (ad 0), .int (nI n), .int (nI w), .ref ao])).length) Slot.unset).toArray = ls at hl ⊢
  have hl : lv_has ls 5 [(0, .ref (ad 0)), (1, .int (nI n)), (2, .int (nI w)), (3, .ref ao)] := hl
  refine lv_aload_n hx hb dL_pointOf_0 rfl (lv_at hl 3 rfl) ?_
  refine lv_iconst (v := 0) hx hb dL_pointOf_1 (by decide) ?_
  refine lv_aload_n hx hb dL_pointOf_2 rfl (lv_at hl 0 rfl) ?_
  refine lv_iload_n hx hb dL_pointOf_3 rfl (lv_at hl 1 rfl) ?_
  refine lv_iload_n hx hb dL_pointOf_4 rfl (lv_at hl 2 rfl) ?_
  refine cx_ri (va_runV (As := [.int (nI n), .int (nI w)]) (rest := [.int 0, .ref ao]) ⟨hx, hb, hml, hown, hts⟩ (c_X3_pointOf l D T ad I R lm n w hm hI hn hw) (cwV 2 hts gL_pointOf_X3_pointOf rfl rfl rfl (by decide +kernel) ⟨Nat.le_of_ble_eq_true rfl, Nat.le_of_ble_eq_true rfl⟩) ⟨CR.blind, va_recv hK hP (ci := 3) (q0 := 0) rfl cw_0, CR.pre hP hK hN rfl⟩ rfl rfl hl.1 rfl (lv_room (Nat.le_of_ble_eq_true rfl)) dL_pointOf_5 ⟨Nat.le_of_ble_eq_true rfl, Nat.le_of_ble_eq_true rfl⟩) hS (hP.app hO) (fun H locs hP1 hS => ?_)
  have hP : va_P D vwCl (cw T ad I R) H := hP1.sub (List.range 34) rfl
  have hO : va_P D vwCl (ow T ao g) H := hP1.sub [34] rfl
  refine lv_i2l hx hb dL_pointOf_8 rfl ?_
  refine cx_lasto hx hb hK hP hO hAD hao (fun k hk => Or.inl (cA_in hk)) (Or.inr rfl) hS dL_pointOf_9 (fun H locs hP hO hS => ?_)
  refine lv_goto (tgt := 21) hx hb dL_pointOf_10 (by decide) ?_
  refine lv_iconst (v := 0) hx hb dL_pointOf_21 (by decide) ?_
  exact W.iret (v := 0) hx hb hr (fun t ht hW => ⟨⟨0, (), rfl, ⟨rfl, trivial⟩, ⟨by show va_P _ _ _ _; rw [ht]; exact hP, by show va_P _ _ _ _; rw [ht]; exact hO⟩⟩, hS.F ht⟩) hS.2.2 dL_pointOf_22
set_option maxHeartbeats 4000000 in
set_option maxRecDepth 100000 in
theorem h_count (l : Launch) (D : va_G) (T : Nat → ClassId) (ad : Nat → Nat) (I : Nat → Int32) (R : Nat → Nat → Int32) (sz : Nat) (ao : Nat) (g : Nat → Int64) (lm : Nat) (w : Nat) (hAD : AD 34 ad) (hm : lm < 256) (hI : I 4 = nI lm) (hw : w < 9) (hao : ∀ k, k < 34 → ad k ≠ ao) : Met l yL_count wsL_count ({ frames := 7, cells := 0, slots := 0, locals := 150 }) (va_Pc [.ref (ad 0), .int (nI w), .ref ao] (HB D T ad ao I R g sz)) (va_Qi (fun r (u9 : Unit) => r = 0 ∧ True) (fun (u9 : Unit) t => va_P D vwCl (cw T ad I R) t.heap ∧ va_P D vwCl (ow T ao (vp_updL g 0 (Int32.toInt64 (cnF (R 0) (R 1) lm (I 5) (I 2) w)))) t.heap) (hA ad ao sz)) 0 0 (hA ad ao sz) := by
  refine metH_ofW (cc := cL_count) (maxL := 4) (ret := some .int) (by decide) rfl ?_
  intro p e s m args_ below meth c s₁ B hml hv
  obtain ⟨rfl, hsz, ⟨hP, hK, hN⟩, hO⟩ := hv
  have hx := B.exec
  have hb := B.bytes
  have hr := B.returns
  have hts := atoms_spec (ws := wsL_count) B.pre
  have hown : s.vm.findClass RL = some m.cls := findClass_of_methodNamed B.named
  have hlocks := B.notSynchronized
  subst hsz
  have hS : va_S (hA ad ao s.heap.size) s.heap s.heap [] := va_S.rf
  have hl := lv_entry ([.ref (ad 0), .int (nI w), .ref ao]) (n := 4) (Nat.le_of_ble_eq_true rfl)
  rw [lg_entry_eq]
  generalize (lg_sl ([.ref (ad 0), .int (nI w), .ref ao]) ++ List.replicate (4 - (lg_sl ([.ref (ad 0), .int (nI w), .ref ao])).length) Slot.unset).toArray = ls at hl ⊢
  have hl : lv_has ls 4 [(0, .ref (ad 0)), (1, .int (nI w)), (2, .ref ao)] := hl
  refine lv_aload_n hx hb dL_count_0 rfl (lv_at hl 2 rfl) ?_
  refine lv_iconst (v := 0) hx hb dL_count_1 (by decide) ?_
  refine lv_aload_n hx hb dL_count_2 rfl (lv_at hl 0 rfl) ?_
  refine lv_iload_n hx hb dL_count_3 rfl (lv_at hl 1 rfl) ?_
  refine cx_ri (va_runV (As := [.int (nI w)]) (rest := [.int 0, .ref ao]) ⟨hx, hb, hml, hown, hts⟩ (c_X3_count l D T ad I R lm w hm hI hw) (cwV 1 hts gL_count_X3_count rfl rfl rfl (by decide +kernel) ⟨Nat.le_of_ble_eq_true rfl, Nat.le_of_ble_eq_true rfl⟩) ⟨CR.blind, va_recv hK hP (ci := 3) (q0 := 0) rfl cw_0, CR.pre hP hK hN rfl⟩ rfl rfl hl.1 rfl (lv_room (Nat.le_of_ble_eq_true rfl)) dL_count_4 ⟨Nat.le_of_ble_eq_true rfl, Nat.le_of_ble_eq_true rfl⟩) hS (hP.app hO) (fun H locs hP1 hS => ?_)
  have hP : va_P D vwCl (cw T ad I R) H := hP1.sub (List.range 34) rfl
  have hO : va_P D vwCl (ow T ao g) H := hP1.sub [34] rfl
  refine lv_i2l hx hb dL_count_7 rfl ?_
  refine cx_lasto hx hb hK hP hO hAD hao (fun k hk => Or.inl (cA_in hk)) (Or.inr rfl) hS dL_count_8 (fun H locs hP hO hS => ?_)
  refine lv_goto (tgt := 15) hx hb dL_count_9 (by decide) ?_
  refine lv_iconst (v := 0) hx hb dL_count_15 (by decide) ?_
  exact W.iret (v := 0) hx hb hr (fun t ht hW => ⟨⟨0, (), rfl, ⟨rfl, trivial⟩, ⟨by show va_P _ _ _ _; rw [ht]; exact hP, by show va_P _ _ _ _; rw [ht]; exact hO⟩⟩, hS.F ht⟩) hS.2.2 dL_count_16
set_option maxHeartbeats 4000000 in
set_option maxRecDepth 100000 in
theorem h_enough (l : Launch) (D : va_G) (T : Nat → ClassId) (ad : Nat → Nat) (I : Nat → Int32) (R : Nat → Nat → Int32) (sz : Nat) (ao : Nat) (g : Nat → Int64) (lm : Nat) (x : Int32) (w : Nat) (hAD : AD 34 ad) (hm : lm < 256) (hI : I 4 = nI lm) (hx9 : outI x 0 9999999 = 0) (hw : w < 2) (hao : ∀ k, k < 34 → ad k ≠ ao) : Met l yL_enough wsL_enough ({ frames := 5, cells := 0, slots := 0, locals := 108 }) (va_Pc [.ref (ad 0), .int x, .int (nI w), .ref ao] (HB D T ad ao I R g sz)) (va_Qi (fun r (f : Nat → Int32) => r = 0 ∧ True) (fun (f : Nat → Int32) t => va_P D vwCl (cw T ad I (updR R 19 f)) t.heap ∧ va_P D vwCl (ow T ao (vp_updL g 0 (Int32.toInt64 (feF (erF (R 0) lm) x w)))) t.heap) (hA ad ao sz)) 0 0 (hA ad ao sz) := by
  refine metH_ofW (cc := cL_enough) (maxL := 5) (ret := some .int) (by decide) rfl ?_
  intro p e s m args_ below meth c s₁ B hml hv
  obtain ⟨rfl, hsz, ⟨hP, hK, hN⟩, hO⟩ := hv
  have hx := B.exec
  have hb := B.bytes
  have hr := B.returns
  have hts := atoms_spec (ws := wsL_enough) B.pre
  have hown : s.vm.findClass RL = some m.cls := findClass_of_methodNamed B.named
  have hlocks := B.notSynchronized
  subst hsz
  have hS : va_S (hA ad ao s.heap.size) s.heap s.heap [] := va_S.rf
  have hl := lv_entry ([.ref (ad 0), .int x, .int (nI w), .ref ao]) (n := 5) (Nat.le_of_ble_eq_true rfl)
  rw [lg_entry_eq]
  generalize (lg_sl ([.ref (ad 0), .int x, .int (nI w), .ref ao]) ++ List.replicate (5 - (lg_sl ([.ref (ad 0), .int x, .int (nI w), .ref ao])).length) Slot.unset).toArray = ls at hl ⊢
  have hl : lv_has ls 5 [(0, .ref (ad 0)), (1, .int x), (2, .int (nI w)), (3, .ref ao)] := hl
  refine lv_aload_n hx hb dL_enough_0 rfl (lv_at hl 3 rfl) ?_
  refine lv_iconst (v := 0) hx hb dL_enough_1 (by decide) ?_
  refine lv_aload_n hx hb dL_enough_2 rfl (lv_at hl 0 rfl) ?_
  refine lv_iload_n hx hb dL_enough_3 rfl (lv_at hl 1 rfl) ?_
  refine lv_iload_n hx hb dL_enough_4 rfl (lv_at hl 2 rfl) ?_
  refine cx_wi (va_runV (As := [.int x, .int (nI w)]) (rest := [.int 0, .ref ao]) ⟨hx, hb, hml, hown, hts⟩ (c_X3_enough l D T ad I R _ lm x w hAD hm hI hx9 hw) (cwV 2 hts gL_enough_X3_enough rfl rfl rfl (by decide +kernel) ⟨Nat.le_of_ble_eq_true rfl, Nat.le_of_ble_eq_true rfl⟩) ⟨CB.blind, va_recv hK hP (ci := 3) (q0 := 0) rfl cw_0, CB.pre hP hK hN rfl⟩ rfl rfl hl.1 rfl (lv_room (Nat.le_of_ble_eq_true rfl)) dL_enough_5 ⟨Nat.le_of_ble_eq_true rfl, Nat.le_of_ble_eq_true rfl⟩) hS (fun q h => Or.inl (cA_le hS.1 q h)) (fun q h => Or.inl (cA_le hS.1 q h)) (fun f H locs _ hP hkk hS => ?_)
  have hO := ow_kept hO hkk hao
  refine lv_i2l hx hb dL_enough_8 rfl ?_
  refine cx_lasto hx hb hK hP hO hAD hao (fun k hk => Or.inl (cA_in hk)) (Or.inr rfl) hS dL_enough_9 (fun H locs hP hO hS => ?_)
  refine lv_goto (tgt := 17) hx hb dL_enough_10 (by decide) ?_
  refine lv_iconst (v := 0) hx hb dL_enough_17 (by decide) ?_
  exact W.iret (v := 0) hx hb hr (fun t ht hW => ⟨⟨0, f, rfl, ⟨rfl, trivial⟩, ⟨by show va_P _ _ _ _; rw [ht]; exact hP, by show va_P _ _ _ _; rw [ht]; exact hO⟩⟩, hS.F ht⟩) hS.2.2 dL_enough_18
set_option maxHeartbeats 4000000 in
set_option maxRecDepth 100000 in
theorem h_ifTurned (l : Launch) (D : va_G) (T : Nat → ClassId) (ad : Nat → Nat) (I : Nat → Int32) (R : Nat → Nat → Int32) (sz : Nat) (ao : Nat) (g : Nat → Int64) (lm : Nat) (b : Nat) (n : Nat) (hAD : AD 34 ad) (hm : lm < 256) (hI : I 4 = nI lm) (hb8 : b < 8) (hn : n < 8) (hao : ∀ k, k < 34 → ad k ≠ ao) : Met l yL_ifTurned wsL_ifTurned ({ frames := 4, cells := 0, slots := 0, locals := 87 }) (va_Pc [.ref (ad 0), .int (nI b), .int (nI n), .ref ao] (HB D T ad ao I R g sz)) (va_Qi (fun r (u9 : Unit) => r = 0 ∧ True) (fun (u9 : Unit) t => va_P D vwCl (cw T ad I R) t.heap ∧ va_P D vwCl (ow T ao (vp_updL g 0 (Int32.toInt64 (trS (dr (R 0) lm) (n ^^^ b) 8)))) t.heap) (hA ad ao sz)) 0 0 (hA ad ao sz) := by
  refine metH_ofW (cc := cL_ifTurned) (maxL := 5) (ret := some .int) (by decide) rfl ?_
  intro p e s m args_ below meth c s₁ B hml hv
  obtain ⟨rfl, hsz, ⟨hP, hK, hN⟩, hO⟩ := hv
  have hx := B.exec
  have hb := B.bytes
  have hr := B.returns
  have hts := atoms_spec (ws := wsL_ifTurned) B.pre
  have hown : s.vm.findClass RL = some m.cls := findClass_of_methodNamed B.named
  have hlocks := B.notSynchronized
  subst hsz
  have hS : va_S (hA ad ao s.heap.size) s.heap s.heap [] := va_S.rf
  have hl := lv_entry ([.ref (ad 0), .int (nI b), .int (nI n), .ref ao]) (n := 5) (Nat.le_of_ble_eq_true rfl)
  rw [lg_entry_eq]
  generalize (lg_sl ([.ref (ad 0), .int (nI b), .int (nI n), .ref ao]) ++ List.replicate (5 - (lg_sl ([.ref (ad 0), .int (nI b), .int (nI n), .ref ao])).length) Slot.unset).toArray = ls at hl ⊢
  have hl : lv_has ls 5 [(0, .ref (ad 0)), (1, .int (nI b)), (2, .int (nI n)), (3, .ref ao)] := hl
  refine lv_aload_n hx hb dL_ifTurned_0 rfl (lv_at hl 3 rfl) ?_
  refine lv_iconst (v := 0) hx hb dL_ifTurned_1 (by decide) ?_
  refine lv_aload_n hx hb dL_ifTurned_2 rfl (lv_at hl 0 rfl) ?_
  refine lv_iload_n hx hb dL_ifTurned_3 rfl (lv_at hl 1 rfl) ?_
  refine lv_iload_n hx hb dL_ifTurned_4 rfl (lv_at hl 2 rfl) ?_
  refine cx_ri (va_runV (As := [.int (nI b), .int (nI n)]) (rest := [.int 0, .ref ao]) ⟨hx, hb, hml, hown, hts⟩ (c_X3_ifTurned l D T ad I R lm b n hm hI hb8 hn) (cwV 2 hts gL_ifTurned_X3_ifTurned rfl rfl rfl (by decide +kernel) ⟨Nat.le_of_ble_eq_true rfl, Nat.le_of_ble_eq_true rfl⟩) ⟨CR.blind, va_recv hK hP (ci := 3) (q0 := 0) rfl cw_0, CR.pre hP hK hN rfl⟩ rfl rfl hl.1 rfl (lv_room (Nat.le_of_ble_eq_true rfl)) dL_ifTurned_5 ⟨Nat.le_of_ble_eq_true rfl, Nat.le_of_ble_eq_true rfl⟩) hS (hP.app hO) (fun H locs hP1 hS => ?_)
  have hP : va_P D vwCl (cw T ad I R) H := hP1.sub (List.range 34) rfl
  have hO : va_P D vwCl (ow T ao g) H := hP1.sub [34] rfl
  refine lv_i2l hx hb dL_ifTurned_8 rfl ?_
  refine cx_lasto hx hb hK hP hO hAD hao (fun k hk => Or.inl (cA_in hk)) (Or.inr rfl) hS dL_ifTurned_9 (fun H locs hP hO hS => ?_)
  refine lv_goto (tgt := 21) hx hb dL_ifTurned_10 (by decide) ?_
  refine lv_iconst (v := 0) hx hb dL_ifTurned_21 (by decide) ?_
  exact W.iret (v := 0) hx hb hr (fun t ht hW => ⟨⟨0, (), rfl, ⟨rfl, trivial⟩, ⟨by show va_P _ _ _ _; rw [ht]; exact hP, by show va_P _ _ _ _; rw [ht]; exact hO⟩⟩, hS.F ht⟩) hS.2.2 dL_ifTurned_22
set_option maxHeartbeats 4000000 in
set_option maxRecDepth 100000 in
theorem h_set_t1 (l : Launch) (D : va_G) (T : Nat → ClassId) (ad : Nat → Nat) (I : Nat → Int32) (R : Nat → Nat → Int32) (ao : Nat) (hlt : l.stackTraces = false) (v : Int32) (x : Int32) (h1 : outI v 0 7 = 1) : Met l yL_set wsL_set ({ frames := 7, cells := 1, slots := 6, locals := 105 }) (va_Pc [.ref (ad 0), .int v, .int x, .ref ao] (XN D T ad I R)) (RqI 1) 1 6 (fun _ => False) := by
  refine metH_ofW (cc := cL_set) (maxL := 5) (ret := some .int) (by decide) rfl ?_
  intro p e s m args_ below meth c s₁ B hml hv
  obtain ⟨rfl, ⟨⟨hP, hK, hN⟩, hXU, hXZ⟩, hNc⟩ := hv
  have hx := B.exec
  have hb := B.bytes
  have hr := B.returns
  have hts := atoms_spec (ws := wsL_set) B.pre
  have hown : s.vm.findClass RL = some m.cls := findClass_of_methodNamed B.named
  have hlocks := B.notSynchronized
  have hS : va_S (fun _ => False) s.heap s.heap [] := va_S.rf
  have hl := lv_entry ([.ref (ad 0), .int v, .int x, .ref ao]) (n := 5) (Nat.le_of_ble_eq_true rfl)
  rw [lg_entry_eq]
  generalize (lg_sl ([.ref (ad 0), .int v, .int x, .ref ao]) ++ List.replicate (5 - (lg_sl ([.ref (ad 0), .int v, .int x, .ref ao])).length) Slot.unset).toArray = ls at hl ⊢
  have hl : lv_has ls 5 [(0, .ref (ad 0)), (1, .int v), (2, .int x), (3, .ref ao)] := hl
  refine lv_aload_n hx hb dL_set_0 rfl (lv_at hl 3 rfl) ?_
  refine lv_iconst (v := 0) hx hb dL_set_1 (by decide) ?_
  refine lv_aload_n hx hb dL_set_2 rfl (lv_at hl 0 rfl) ?_
  refine lv_iload_n hx hb dL_set_3 rfl (lv_at hl 1 rfl) ?_
  refine lv_iload_n hx hb dL_set_4 rfl (lv_at hl 2 rfl) ?_
  refine vx_calli (vx_runV (As := [.int v, .int x]) (rest := [.int 0, .ref ao]) ⟨hx, hb, hml, hown, hts⟩ (c_X3_set_t1 l D T ad I R hlt v x h1) (cwV 2 hts gL_set_X3_set rfl rfl rfl (by decide +kernel) ⟨Nat.le_of_ble_eq_true rfl, Nat.le_of_ble_eq_true rfl⟩) ⟨XR.blind, va_recv hK hP (ci := 3) (q0 := 0) rfl cw_0, XR.pre hP hK hN hXU hXZ hS rfl⟩ rfl rfl hl.1 rfl (lv_room (Nat.le_of_ble_eq_true rfl)) dL_set_5 ⟨Nat.le_of_ble_eq_true rfl, Nat.le_of_ble_eq_true rfl⟩) hS (fun q _ h => h.elim) (fun q h => h.elim) (fun q _ h => h.elim) (fun E ce q9 u t H1 locs1 ht hal _ hE hz hk hS1 hce hcv hcl => ?_) (fun r u t H1 locs1 _ _ hf _ _ _ _ => hf.elim)
  obtain rfl : E = "java/lang/IndexOutOfBoundsException" := hE
  refine vx_catch (name := "java/lang/IndexOutOfBoundsException") hown [] ⟨0, 10, 13, 13⟩ [⟨0, 10, 17, 15⟩] ((vx_table (x := yL_set) B (hts _ List.mem_cons_self)).trans rfl) (fun z hz9 => absurd hz9 List.not_mem_nil) (by decide) (by decide) (hts (.classLink RL 13 "java/lang/IndexOutOfBoundsException") (by decide +kernel)) (va_Nw.use rfl (hXU.1 _ (List.mem_of_getElem? (i := 3) rfl))) hce hcv hcl ?_
  refine lv_astore (lv' := [(4, .ref q9), (0, .ref (ad 0)), (1, .int v), (2, .int x), (3, .ref ao)]) hx hb dL_set_13 hl (by decide) rfl (fun ls hl => ?_)
  refine lv_iconst (v := 1) hx hb dL_set_15 (by decide) ?_
  exact W.iret (v := 1) hx hb hr (fun t ht hW => ⟨⟨1, (), rfl, rfl, trivial⟩, hS1.F ht⟩) hS1.2.2 dL_set_16
set_option maxHeartbeats 4000000 in
set_option maxRecDepth 100000 in
theorem h_set_t2 (l : Launch) (D : va_G) (T : Nat → ClassId) (ad : Nat → Nat) (I : Nat → Int32) (R : Nat → Nat → Int32) (ao : Nat) (hlt : l.stackTraces = false) (k : Nat) (x : Int32) (hk : k < 8) (h1 : outI x (-99) 99 = 1) : Met l yL_set wsL_set ({ frames := 7, cells := 1, slots := 6, locals := 105 }) (va_Pc [.ref (ad 0), .int (nI k), .int x, .ref ao] (XN D T ad I R)) (RqI 2) 1 6 (fun _ => False) := by
  refine metH_ofW (cc := cL_set) (maxL := 5) (ret := some .int) (by decide) rfl ?_
  intro p e s m args_ below meth c s₁ B hml hv
  obtain ⟨rfl, ⟨⟨hP, hK, hN⟩, hXU, hXZ⟩, hNc⟩ := hv
  have hx := B.exec
  have hb := B.bytes
  have hr := B.returns
  have hts := atoms_spec (ws := wsL_set) B.pre
  have hown : s.vm.findClass RL = some m.cls := findClass_of_methodNamed B.named
  have hlocks := B.notSynchronized
  have hS : va_S (fun _ => False) s.heap s.heap [] := va_S.rf
  have hl := lv_entry ([.ref (ad 0), .int (nI k), .int x, .ref ao]) (n := 5) (Nat.le_of_ble_eq_true rfl)
  rw [lg_entry_eq]
  generalize (lg_sl ([.ref (ad 0), .int (nI k), .int x, .ref ao]) ++ List.replicate (5 - (lg_sl ([.ref (ad 0), .int (nI k), .int x, .ref ao])).length) Slot.unset).toArray = ls at hl ⊢
  have hl : lv_has ls 5 [(0, .ref (ad 0)), (1, .int (nI k)), (2, .int x), (3, .ref ao)] := hl
  refine lv_aload_n hx hb dL_set_0 rfl (lv_at hl 3 rfl) ?_
  refine lv_iconst (v := 0) hx hb dL_set_1 (by decide) ?_
  refine lv_aload_n hx hb dL_set_2 rfl (lv_at hl 0 rfl) ?_
  refine lv_iload_n hx hb dL_set_3 rfl (lv_at hl 1 rfl) ?_
  refine lv_iload_n hx hb dL_set_4 rfl (lv_at hl 2 rfl) ?_
  refine vx_calli (vx_runV (As := [.int (nI k), .int x]) (rest := [.int 0, .ref ao]) ⟨hx, hb, hml, hown, hts⟩ (c_X3_set_t2 l D T ad I R hlt k x hk h1) (cwV 2 hts gL_set_X3_set rfl rfl rfl (by decide +kernel) ⟨Nat.le_of_ble_eq_true rfl, Nat.le_of_ble_eq_true rfl⟩) ⟨XR.blind, va_recv hK hP (ci := 3) (q0 := 0) rfl cw_0, XR.pre hP hK hN hXU hXZ hS rfl⟩ rfl rfl hl.1 rfl (lv_room (Nat.le_of_ble_eq_true rfl)) dL_set_5 ⟨Nat.le_of_ble_eq_true rfl, Nat.le_of_ble_eq_true rfl⟩) hS (fun q _ h => h.elim) (fun q h => h.elim) (fun q _ h => h.elim) (fun E ce q9 u t H1 locs1 ht hal _ hE hz hk hS1 hce hcv hcl => ?_) (fun r u t H1 locs1 _ _ hf _ _ _ _ => hf.elim)
  obtain rfl : E = "java/lang/IllegalArgumentException" := hE
  refine vx_catch (name := "java/lang/IllegalArgumentException") hown [⟨0, 10, 13, 13⟩] ⟨0, 10, 17, 15⟩ [] ((vx_table (x := yL_set) B (hts _ List.mem_cons_self)).trans rfl) (fun z hz9 => by rcases List.mem_singleton.mp hz9 with rfl; exact Or.inr ⟨by decide, "java/lang/IndexOutOfBoundsException", hts (.classLink RL 13 "java/lang/IndexOutOfBoundsException") (by decide +kernel), hNc.1⟩) (by decide) (by decide) (hts (.classLink RL 15 "java/lang/IllegalArgumentException") (by decide +kernel)) (va_Nw.use rfl (hXU.1 _ (List.mem_of_getElem? (i := 4) rfl))) hce hcv hcl ?_
  refine lv_astore (lv' := [(4, .ref q9), (0, .ref (ad 0)), (1, .int (nI k)), (2, .int x), (3, .ref ao)]) hx hb dL_set_17 hl (by decide) rfl (fun ls hl => ?_)
  refine lv_iconst (v := 2) hx hb dL_set_19 (by decide) ?_
  exact W.iret (v := 2) hx hb hr (fun t ht hW => ⟨⟨2, (), rfl, rfl, trivial⟩, hS1.F ht⟩) hS1.2.2 dL_set_20
set_option maxHeartbeats 4000000 in
set_option maxRecDepth 100000 in
theorem h_point_t1 (l : Launch) (D : va_G) (T : Nat → ClassId) (ad : Nat → Nat) (I : Nat → Int32) (R : Nat → Nat → Int32) (ao : Nat) (hlt : l.stackTraces = false) (v : Int32) (x : Int32) (h1 : outI v 0 7 = 1) : Met l yL_point wsL_point ({ frames := 7, cells := 1, slots := 6, locals := 105 }) (va_Pc [.ref (ad 0), .int v, .int x, .ref ao] (XN D T ad I R)) (RqI 1) 1 6 (fun _ => False) := by
  refine metH_ofW (cc := cL_point) (maxL := 5) (ret := some .int) (by decide) rfl ?_
  intro p e s m args_ below meth c s₁ B hml hv
  obtain ⟨rfl, ⟨⟨hP, hK, hN⟩, hXU, hXZ⟩, hNc⟩ := hv
  have hx := B.exec
  have hb := B.bytes
  have hr := B.returns
  have hts := atoms_spec (ws := wsL_point) B.pre
  have hown : s.vm.findClass RL = some m.cls := findClass_of_methodNamed B.named
  have hlocks := B.notSynchronized
  have hS : va_S (fun _ => False) s.heap s.heap [] := va_S.rf
  have hl := lv_entry ([.ref (ad 0), .int v, .int x, .ref ao]) (n := 5) (Nat.le_of_ble_eq_true rfl)
  rw [lg_entry_eq]
  generalize (lg_sl ([.ref (ad 0), .int v, .int x, .ref ao]) ++ List.replicate (5 - (lg_sl ([.ref (ad 0), .int v, .int x, .ref ao])).length) Slot.unset).toArray = ls at hl ⊢
  have hl : lv_has ls 5 [(0, .ref (ad 0)), (1, .int v), (2, .int x), (3, .ref ao)] := hl
  refine lv_aload_n hx hb dL_point_0 rfl (lv_at hl 3 rfl) ?_
  refine lv_iconst (v := 0) hx hb dL_point_1 (by decide) ?_
  refine lv_aload_n hx hb dL_point_2 rfl (lv_at hl 0 rfl) ?_
  refine lv_iload_n hx hb dL_point_3 rfl (lv_at hl 1 rfl) ?_
  refine lv_iload_n hx hb dL_point_4 rfl (lv_at hl 2 rfl) ?_
  refine vx_calli (vx_runV (As := [.int v, .int x]) (rest := [.int 0, .ref ao]) ⟨hx, hb, hml, hown, hts⟩ (c_X3_point_t1 l D T ad I R hlt v x h1) (cwV 2 hts gL_point_X3_point rfl rfl rfl (by decide +kernel) ⟨Nat.le_of_ble_eq_true rfl, Nat.le_of_ble_eq_true rfl⟩) ⟨XR.blind, va_recv hK hP (ci := 3) (q0 := 0) rfl cw_0, XR.pre hP hK hN hXU hXZ hS rfl⟩ rfl rfl hl.1 rfl (lv_room (Nat.le_of_ble_eq_true rfl)) dL_point_5 ⟨Nat.le_of_ble_eq_true rfl, Nat.le_of_ble_eq_true rfl⟩) hS (fun q _ h => h.elim) (fun q h => h.elim) (fun q _ h => h.elim) (fun E ce q9 u t H1 locs1 ht hal _ hE hz hk hS1 hce hcv hcl => ?_) (fun r u t H1 locs1 _ _ hf _ _ _ _ => hf.elim)
  obtain rfl : E = "java/lang/IndexOutOfBoundsException" := hE
  refine vx_catch (name := "java/lang/IndexOutOfBoundsException") hown [] ⟨0, 10, 13, 13⟩ [⟨0, 10, 17, 15⟩] ((vx_table (x := yL_point) B (hts _ List.mem_cons_self)).trans rfl) (fun z hz9 => absurd hz9 List.not_mem_nil) (by decide) (by decide) (hts (.classLink RL 13 "java/lang/IndexOutOfBoundsException") (by decide +kernel)) (va_Nw.use rfl (hXU.1 _ (List.mem_of_getElem? (i := 3) rfl))) hce hcv hcl ?_
  refine lv_astore (lv' := [(4, .ref q9), (0, .ref (ad 0)), (1, .int v), (2, .int x), (3, .ref ao)]) hx hb dL_point_13 hl (by decide) rfl (fun ls hl => ?_)
  refine lv_iconst (v := 1) hx hb dL_point_15 (by decide) ?_
  exact W.iret (v := 1) hx hb hr (fun t ht hW => ⟨⟨1, (), rfl, rfl, trivial⟩, hS1.F ht⟩) hS1.2.2 dL_point_16
set_option maxHeartbeats 4000000 in
set_option maxRecDepth 100000 in
theorem h_point_t2 (l : Launch) (D : va_G) (T : Nat → ClassId) (ad : Nat → Nat) (I : Nat → Int32) (R : Nat → Nat → Int32) (ao : Nat) (hlt : l.stackTraces = false) (k : Nat) (x : Int32) (hk : k < 8) (h1 : outI x (-9999) 9999 = 1) : Met l yL_point wsL_point ({ frames := 7, cells := 1, slots := 6, locals := 105 }) (va_Pc [.ref (ad 0), .int (nI k), .int x, .ref ao] (XN D T ad I R)) (RqI 2) 1 6 (fun _ => False) := by
  refine metH_ofW (cc := cL_point) (maxL := 5) (ret := some .int) (by decide) rfl ?_
  intro p e s m args_ below meth c s₁ B hml hv
  obtain ⟨rfl, ⟨⟨hP, hK, hN⟩, hXU, hXZ⟩, hNc⟩ := hv
  have hx := B.exec
  have hb := B.bytes
  have hr := B.returns
  have hts := atoms_spec (ws := wsL_point) B.pre
  have hown : s.vm.findClass RL = some m.cls := findClass_of_methodNamed B.named
  have hlocks := B.notSynchronized
  have hS : va_S (fun _ => False) s.heap s.heap [] := va_S.rf
  have hl := lv_entry ([.ref (ad 0), .int (nI k), .int x, .ref ao]) (n := 5) (Nat.le_of_ble_eq_true rfl)
  rw [lg_entry_eq]
  generalize (lg_sl ([.ref (ad 0), .int (nI k), .int x, .ref ao]) ++ List.replicate (5 - (lg_sl ([.ref (ad 0), .int (nI k), .int x, .ref ao])).length) Slot.unset).toArray = ls at hl ⊢
  have hl : lv_has ls 5 [(0, .ref (ad 0)), (1, .int (nI k)), (2, .int x), (3, .ref ao)] := hl
  refine lv_aload_n hx hb dL_point_0 rfl (lv_at hl 3 rfl) ?_
  refine lv_iconst (v := 0) hx hb dL_point_1 (by decide) ?_
  refine lv_aload_n hx hb dL_point_2 rfl (lv_at hl 0 rfl) ?_
  refine lv_iload_n hx hb dL_point_3 rfl (lv_at hl 1 rfl) ?_
  refine lv_iload_n hx hb dL_point_4 rfl (lv_at hl 2 rfl) ?_
  refine vx_calli (vx_runV (As := [.int (nI k), .int x]) (rest := [.int 0, .ref ao]) ⟨hx, hb, hml, hown, hts⟩ (c_X3_point_t2 l D T ad I R hlt k x hk h1) (cwV 2 hts gL_point_X3_point rfl rfl rfl (by decide +kernel) ⟨Nat.le_of_ble_eq_true rfl, Nat.le_of_ble_eq_true rfl⟩) ⟨XR.blind, va_recv hK hP (ci := 3) (q0 := 0) rfl cw_0, XR.pre hP hK hN hXU hXZ hS rfl⟩ rfl rfl hl.1 rfl (lv_room (Nat.le_of_ble_eq_true rfl)) dL_point_5 ⟨Nat.le_of_ble_eq_true rfl, Nat.le_of_ble_eq_true rfl⟩) hS (fun q _ h => h.elim) (fun q h => h.elim) (fun q _ h => h.elim) (fun E ce q9 u t H1 locs1 ht hal _ hE hz hk hS1 hce hcv hcl => ?_) (fun r u t H1 locs1 _ _ hf _ _ _ _ => hf.elim)
  obtain rfl : E = "java/lang/IllegalArgumentException" := hE
  refine vx_catch (name := "java/lang/IllegalArgumentException") hown [⟨0, 10, 13, 13⟩] ⟨0, 10, 17, 15⟩ [] ((vx_table (x := yL_point) B (hts _ List.mem_cons_self)).trans rfl) (fun z hz9 => by rcases List.mem_singleton.mp hz9 with rfl; exact Or.inr ⟨by decide, "java/lang/IndexOutOfBoundsException", hts (.classLink RL 13 "java/lang/IndexOutOfBoundsException") (by decide +kernel), hNc.1⟩) (by decide) (by decide) (hts (.classLink RL 15 "java/lang/IllegalArgumentException") (by decide +kernel)) (va_Nw.use rfl (hXU.1 _ (List.mem_of_getElem? (i := 4) rfl))) hce hcv hcl ?_
  refine lv_astore (lv' := [(4, .ref q9), (0, .ref (ad 0)), (1, .int (nI k)), (2, .int x), (3, .ref ao)]) hx hb dL_point_17 hl (by decide) rfl (fun ls hl => ?_)
  refine lv_iconst (v := 2) hx hb dL_point_19 (by decide) ?_
  exact W.iret (v := 2) hx hb hr (fun t ht hW => ⟨⟨2, (), rfl, rfl, trivial⟩, hS1.F ht⟩) hS1.2.2 dL_point_20
set_option maxHeartbeats 4000000 in
set_option maxRecDepth 100000 in
theorem h_lose_t1 (l : Launch) (D : va_G) (T : Nat → ClassId) (ad : Nat → Nat) (I : Nat → Int32) (R : Nat → Nat → Int32) (ao : Nat) (hlt : l.stackTraces = false) (v : Int32) (h1 : outI v 0 7 = 1) : Met l yL_lose wsL_lose ({ frames := 7, cells := 1, slots := 6, locals := 103 }) (va_Pc [.ref (ad 0), .int v, .ref ao] (XN D T ad I R)) (RqI 1) 1 6 (fun _ => False) := by
  refine metH_ofW (cc := cL_lose) (maxL := 4) (ret := some .int) (by decide) rfl ?_
  intro p e s m args_ below meth c s₁ B hml hv
  obtain ⟨rfl, ⟨⟨hP, hK, hN⟩, hXU, hXZ⟩, hNc⟩ := hv
  have hx := B.exec
  have hb := B.bytes
  have hr := B.returns
  have hts := atoms_spec (ws := wsL_lose) B.pre
  have hown : s.vm.findClass RL = some m.cls := findClass_of_methodNamed B.named
  have hlocks := B.notSynchronized
  have hS : va_S (fun _ => False) s.heap s.heap [] := va_S.rf
  have hl := lv_entry ([.ref (ad 0), .int v, .ref ao]) (n := 4) (Nat.le_of_ble_eq_true rfl)
  rw [lg_entry_eq]
  generalize (lg_sl ([.ref (ad 0), .int v, .ref ao]) ++ List.replicate (4 - (lg_sl ([.ref (ad 0), .int v, .ref ao])).length) Slot.unset).toArray = ls at hl ⊢
  have hl : lv_has ls 4 [(0, .ref (ad 0)), (1, .int v), (2, .ref ao)] := hl
  refine lv_aload_n hx hb dL_lose_0 rfl (lv_at hl 2 rfl) ?_
  refine lv_iconst (v := 0) hx hb dL_lose_1 (by decide) ?_
  refine lv_aload_n hx hb dL_lose_2 rfl (lv_at hl 0 rfl) ?_
  refine lv_iload_n hx hb dL_lose_3 rfl (lv_at hl 1 rfl) ?_
  refine vx_calli (vx_runV (As := [.int v]) (rest := [.int 0, .ref ao]) ⟨hx, hb, hml, hown, hts⟩ (c_X3_lose_t1 l D T ad I R hlt v h1) (cwV 1 hts gL_lose_X3_lose rfl rfl rfl (by decide +kernel) ⟨Nat.le_of_ble_eq_true rfl, Nat.le_of_ble_eq_true rfl⟩) ⟨XR.blind, va_recv hK hP (ci := 3) (q0 := 0) rfl cw_0, XR.pre hP hK hN hXU hXZ hS rfl⟩ rfl rfl hl.1 rfl (lv_room (Nat.le_of_ble_eq_true rfl)) dL_lose_4 ⟨Nat.le_of_ble_eq_true rfl, Nat.le_of_ble_eq_true rfl⟩) hS (fun q _ h => h.elim) (fun q h => h.elim) (fun q _ h => h.elim) (fun E ce q9 u t H1 locs1 ht hal _ hE hz hk hS1 hce hcv hcl => ?_) (fun r u t H1 locs1 _ _ hf _ _ _ _ => hf.elim)
  obtain rfl : E = "java/lang/IndexOutOfBoundsException" := hE
  refine vx_catch (name := "java/lang/IndexOutOfBoundsException") hown [] ⟨0, 9, 12, 13⟩ [] ((vx_table (x := yL_lose) B (hts _ List.mem_cons_self)).trans rfl) (fun z hz9 => absurd hz9 List.not_mem_nil) (by decide) (by decide) (hts (.classLink RL 13 "java/lang/IndexOutOfBoundsException") (by decide +kernel)) (va_Nw.use rfl (hXU.1 _ (List.mem_of_getElem? (i := 3) rfl))) hce hcv hcl ?_
  refine lv_astore_n (lv' := [(3, .ref q9), (0, .ref (ad 0)), (1, .int v), (2, .ref ao)]) hx hb dL_lose_12 rfl hl (by decide) rfl (fun ls hl => ?_)
  refine lv_iconst (v := 1) hx hb dL_lose_13 (by decide) ?_
  exact W.iret (v := 1) hx hb hr (fun t ht hW => ⟨⟨1, (), rfl, rfl, trivial⟩, hS1.F ht⟩) hS1.2.2 dL_lose_14
set_option maxHeartbeats 4000000 in
set_option maxRecDepth 100000 in
theorem h_turn_t1 (l : Launch) (D : va_G) (T : Nat → ClassId) (ad : Nat → Nat) (I : Nat → Int32) (R : Nat → Nat → Int32) (ao : Nat) (hlt : l.stackTraces = false) (v : Int32) (h1 : outI v 0 7 = 1) : Met l yL_turn wsL_turn ({ frames := 7, cells := 1, slots := 6, locals := 105 }) (va_Pc [.ref (ad 0), .int v, .ref ao] (XN D T ad I R)) (RqI 1) 1 6 (fun _ => False) := by
  refine metH_ofW (cc := cL_turn) (maxL := 4) (ret := some .int) (by decide) rfl ?_
  intro p e s m args_ below meth c s₁ B hml hv
  obtain ⟨rfl, ⟨⟨hP, hK, hN⟩, hXU, hXZ⟩, hNc⟩ := hv
  have hx := B.exec
  have hb := B.bytes
  have hr := B.returns
  have hts := atoms_spec (ws := wsL_turn) B.pre
  have hown : s.vm.findClass RL = some m.cls := findClass_of_methodNamed B.named
  have hlocks := B.notSynchronized
  have hS : va_S (fun _ => False) s.heap s.heap [] := va_S.rf
  have hl := lv_entry ([.ref (ad 0), .int v, .ref ao]) (n := 4) (Nat.le_of_ble_eq_true rfl)
  rw [lg_entry_eq]
  generalize (lg_sl ([.ref (ad 0), .int v, .ref ao]) ++ List.replicate (4 - (lg_sl ([.ref (ad 0), .int v, .ref ao])).length) Slot.unset).toArray = ls at hl ⊢
  have hl : lv_has ls 4 [(0, .ref (ad 0)), (1, .int v), (2, .ref ao)] := hl
  refine lv_aload_n hx hb dL_turn_0 rfl (lv_at hl 2 rfl) ?_
  refine lv_iconst (v := 0) hx hb dL_turn_1 (by decide) ?_
  refine lv_aload_n hx hb dL_turn_2 rfl (lv_at hl 0 rfl) ?_
  refine lv_iload_n hx hb dL_turn_3 rfl (lv_at hl 1 rfl) ?_
  refine vx_calli (vx_runV (As := [.int v]) (rest := [.int 0, .ref ao]) ⟨hx, hb, hml, hown, hts⟩ (c_X3_turn_t1 l D T ad I R hlt v h1) (cwV 1 hts gL_turn_X3_turn rfl rfl rfl (by decide +kernel) ⟨Nat.le_of_ble_eq_true rfl, Nat.le_of_ble_eq_true rfl⟩) ⟨XR.blind, va_recv hK hP (ci := 3) (q0 := 0) rfl cw_0, XR.pre hP hK hN hXU hXZ hS rfl⟩ rfl rfl hl.1 rfl (lv_room (Nat.le_of_ble_eq_true rfl)) dL_turn_4 ⟨Nat.le_of_ble_eq_true rfl, Nat.le_of_ble_eq_true rfl⟩) hS (fun q _ h => h.elim) (fun q h => h.elim) (fun q _ h => h.elim) (fun E ce q9 u t H1 locs1 ht hal _ hE hz hk hS1 hce hcv hcl => ?_) (fun r u t H1 locs1 _ _ hf _ _ _ _ => hf.elim)
  obtain rfl : E = "java/lang/IllegalArgumentException" := hE
  refine vx_catch (name := "java/lang/IllegalArgumentException") hown [] ⟨0, 9, 12, 15⟩ [] ((vx_table (x := yL_turn) B (hts _ List.mem_cons_self)).trans rfl) (fun z hz9 => absurd hz9 List.not_mem_nil) (by decide) (by decide) (hts (.classLink RL 15 "java/lang/IllegalArgumentException") (by decide +kernel)) (va_Nw.use rfl (hXU.1 _ (List.mem_of_getElem? (i := 4) rfl))) hce hcv hcl ?_
  refine lv_astore_n (lv' := [(3, .ref q9), (0, .ref (ad 0)), (1, .int v), (2, .ref ao)]) hx hb dL_turn_12 rfl hl (by decide) rfl (fun ls hl => ?_)
  refine lv_iconst (v := 1) hx hb dL_turn_13 (by decide) ?_
  exact W.iret (v := 1) hx hb hr (fun t ht hW => ⟨⟨1, (), rfl, rfl, trivial⟩, hS1.F ht⟩) hS1.2.2 dL_turn_14
set_option maxHeartbeats 4000000 in
set_option maxRecDepth 100000 in
theorem h_drop_t1 (l : Launch) (D : va_G) (T : Nat → ClassId) (ad : Nat → Nat) (I : Nat → Int32) (R : Nat → Nat → Int32) (ao : Nat) (hlt : l.stackTraces = false) (x : Int32) (h1 : outI x 1 99 = 1) : Met l yL_drop wsL_drop ({ frames := 7, cells := 1, slots := 6, locals := 105 }) (va_Pc [.ref (ad 0), .int x, .ref ao] (XN D T ad I R)) (RqI 1) 1 6 (fun _ => False) := by
  refine metH_ofW (cc := cL_drop) (maxL := 4) (ret := some .int) (by decide) rfl ?_
  intro p e s m args_ below meth c s₁ B hml hv
  obtain ⟨rfl, ⟨⟨hP, hK, hN⟩, hXU, hXZ⟩, hNc⟩ := hv
  have hx := B.exec
  have hb := B.bytes
  have hr := B.returns
  have hts := atoms_spec (ws := wsL_drop) B.pre
  have hown : s.vm.findClass RL = some m.cls := findClass_of_methodNamed B.named
  have hlocks := B.notSynchronized
  have hS : va_S (fun _ => False) s.heap s.heap [] := va_S.rf
  have hl := lv_entry ([.ref (ad 0), .int x, .ref ao]) (n := 4) (Nat.le_of_ble_eq_true rfl)
  rw [lg_entry_eq]
  generalize (lg_sl ([.ref (ad 0), .int x, .ref ao]) ++ List.replicate (4 - (lg_sl ([.ref (ad 0), .int x, .ref ao])).length) Slot.unset).toArray = ls at hl ⊢
  have hl : lv_has ls 4 [(0, .ref (ad 0)), (1, .int x), (2, .ref ao)] := hl
  refine lv_aload_n hx hb dL_drop_0 rfl (lv_at hl 2 rfl) ?_
  refine lv_iconst (v := 0) hx hb dL_drop_1 (by decide) ?_
  refine lv_aload_n hx hb dL_drop_2 rfl (lv_at hl 0 rfl) ?_
  refine lv_iload_n hx hb dL_drop_3 rfl (lv_at hl 1 rfl) ?_
  refine vx_calli (vx_runV (As := [.int x]) (rest := [.int 0, .ref ao]) ⟨hx, hb, hml, hown, hts⟩ (c_X3_drop_t1 l D T ad I R hlt x h1) (cwV 1 hts gL_drop_X3_drop rfl rfl rfl (by decide +kernel) ⟨Nat.le_of_ble_eq_true rfl, Nat.le_of_ble_eq_true rfl⟩) ⟨XR.blind, va_recv hK hP (ci := 3) (q0 := 0) rfl cw_0, XR.pre hP hK hN hXU hXZ hS rfl⟩ rfl rfl hl.1 rfl (lv_room (Nat.le_of_ble_eq_true rfl)) dL_drop_4 ⟨Nat.le_of_ble_eq_true rfl, Nat.le_of_ble_eq_true rfl⟩) hS (fun q _ h => h.elim) (fun q h => h.elim) (fun q _ h => h.elim) (fun E ce q9 u t H1 locs1 ht hal _ hE hz hk hS1 hce hcv hcl => ?_) (fun r u t H1 locs1 _ _ hf _ _ _ _ => hf.elim)
  obtain rfl : E = "java/lang/IllegalArgumentException" := hE
  refine vx_catch (name := "java/lang/IllegalArgumentException") hown [] ⟨0, 9, 12, 15⟩ [] ((vx_table (x := yL_drop) B (hts _ List.mem_cons_self)).trans rfl) (fun z hz9 => absurd hz9 List.not_mem_nil) (by decide) (by decide) (hts (.classLink RL 15 "java/lang/IllegalArgumentException") (by decide +kernel)) (va_Nw.use rfl (hXU.1 _ (List.mem_of_getElem? (i := 4) rfl))) hce hcv hcl ?_
  refine lv_astore_n (lv' := [(3, .ref q9), (0, .ref (ad 0)), (1, .int x), (2, .ref ao)]) hx hb dL_drop_12 rfl hl (by decide) rfl (fun ls hl => ?_)
  refine lv_iconst (v := 1) hx hb dL_drop_13 (by decide) ?_
  exact W.iret (v := 1) hx hb hr (fun t ht hW => ⟨⟨1, (), rfl, rfl, trivial⟩, hS1.F ht⟩) hS1.2.2 dL_drop_14
set_option maxHeartbeats 4000000 in
set_option maxRecDepth 100000 in
theorem h_append_t1 (l : Launch) (D : va_G) (T : Nat → ClassId) (ad : Nat → Nat) (I : Nat → Int32) (R : Nat → Nat → Int32) (ao : Nat) (hlt : l.stackTraces = false) (x : Int32) (h1 : outI x 33 126 = 1) : Met l yL_append wsL_append ({ frames := 7, cells := 1, slots := 6, locals := 103 }) (va_Pc [.ref (ad 0), .int x, .ref ao] (XN D T ad I R)) (RqI 1) 1 6 (fun _ => False) := by
  refine metH_ofW (cc := cL_append) (maxL := 4) (ret := some .int) (by decide) rfl ?_
  intro p e s m args_ below meth c s₁ B hml hv
  obtain ⟨rfl, ⟨⟨hP, hK, hN⟩, hXU, hXZ⟩, hNc⟩ := hv
  have hx := B.exec
  have hb := B.bytes
  have hr := B.returns
  have hts := atoms_spec (ws := wsL_append) B.pre
  have hown : s.vm.findClass RL = some m.cls := findClass_of_methodNamed B.named
  have hlocks := B.notSynchronized
  have hS : va_S (fun _ => False) s.heap s.heap [] := va_S.rf
  have hl := lv_entry ([.ref (ad 0), .int x, .ref ao]) (n := 4) (Nat.le_of_ble_eq_true rfl)
  rw [lg_entry_eq]
  generalize (lg_sl ([.ref (ad 0), .int x, .ref ao]) ++ List.replicate (4 - (lg_sl ([.ref (ad 0), .int x, .ref ao])).length) Slot.unset).toArray = ls at hl ⊢
  have hl : lv_has ls 4 [(0, .ref (ad 0)), (1, .int x), (2, .ref ao)] := hl
  refine lv_aload_n hx hb dL_append_0 rfl (lv_at hl 2 rfl) ?_
  refine lv_iconst (v := 0) hx hb dL_append_1 (by decide) ?_
  refine lv_aload_n hx hb dL_append_2 rfl (lv_at hl 0 rfl) ?_
  refine lv_iload_n hx hb dL_append_3 rfl (lv_at hl 1 rfl) ?_
  refine vx_calli (vx_runV (As := [.int x]) (rest := [.int 0, .ref ao]) ⟨hx, hb, hml, hown, hts⟩ (c_X3_append_t1 l D T ad I R hlt x h1) (cwV 1 hts gL_append_X3_append rfl rfl rfl (by decide +kernel) ⟨Nat.le_of_ble_eq_true rfl, Nat.le_of_ble_eq_true rfl⟩) ⟨XR.blind, va_recv hK hP (ci := 3) (q0 := 0) rfl cw_0, XR.pre hP hK hN hXU hXZ hS rfl⟩ rfl rfl hl.1 rfl (lv_room (Nat.le_of_ble_eq_true rfl)) dL_append_4 ⟨Nat.le_of_ble_eq_true rfl, Nat.le_of_ble_eq_true rfl⟩) hS (fun q _ h => h.elim) (fun q h => h.elim) (fun q _ h => h.elim) (fun E ce q9 u t H1 locs1 ht hal _ hE hz hk hS1 hce hcv hcl => ?_) (fun r u t H1 locs1 _ _ hf _ _ _ _ => hf.elim)
  obtain rfl : E = "java/lang/IllegalArgumentException" := hE
  refine vx_catch (name := "java/lang/IllegalArgumentException") hown [] ⟨0, 9, 12, 15⟩ [⟨0, 9, 15, 33⟩] ((vx_table (x := yL_append) B (hts _ List.mem_cons_self)).trans rfl) (fun z hz9 => absurd hz9 List.not_mem_nil) (by decide) (by decide) (hts (.classLink RL 15 "java/lang/IllegalArgumentException") (by decide +kernel)) (va_Nw.use rfl (hXU.1 _ (List.mem_of_getElem? (i := 4) rfl))) hce hcv hcl ?_
  refine lv_astore_n (lv' := [(3, .ref q9), (0, .ref (ad 0)), (1, .int x), (2, .ref ao)]) hx hb dL_append_12 rfl hl (by decide) rfl (fun ls hl => ?_)
  refine lv_iconst (v := 1) hx hb dL_append_13 (by decide) ?_
  exact W.iret (v := 1) hx hb hr (fun t ht hW => ⟨⟨1, (), rfl, rfl, trivial⟩, hS1.F ht⟩) hS1.2.2 dL_append_14
set_option maxHeartbeats 4000000 in
set_option maxRecDepth 100000 in
theorem h_append_t2 (l : Launch) (D : va_G) (T : Nat → ClassId) (ad : Nat → Nat) (I : Nat → Int32) (R : Nat → Nat → Int32) (ao : Nat) (hlt : l.stackTraces = false) (q : Nat) (hI3 : I 3 = nI 60) (hq1 : 33 ≤ q) (hq2 : q ≤ 126) : Met l yL_append wsL_append ({ frames := 7, cells := 1, slots := 6, locals := 103 }) (va_Pc [.ref (ad 0), .int (nI q), .ref ao] (XN D T ad I R)) (RqI 2) 1 6 (fun _ => False) := by
  refine metH_ofW (cc := cL_append) (maxL := 4) (ret := some .int) (by decide) rfl ?_
  intro p e s m args_ below meth c s₁ B hml hv
  obtain ⟨rfl, ⟨⟨hP, hK, hN⟩, hXU, hXZ⟩, hNc⟩ := hv
  have hx := B.exec
  have hb := B.bytes
  have hr := B.returns
  have hts := atoms_spec (ws := wsL_append) B.pre
  have hown : s.vm.findClass RL = some m.cls := findClass_of_methodNamed B.named
  have hlocks := B.notSynchronized
  have hS : va_S (fun _ => False) s.heap s.heap [] := va_S.rf
  have hl := lv_entry ([.ref (ad 0), .int (nI q), .ref ao]) (n := 4) (Nat.le_of_ble_eq_true rfl)
  rw [lg_entry_eq]
  generalize (lg_sl ([.ref (ad 0), .int (nI q), .ref ao]) ++ List.replicate (4 - (lg_sl ([.ref (ad 0), .int (nI q), .ref ao])).length) Slot.unset).toArray = ls at hl ⊢
  have hl : lv_has ls 4 [(0, .ref (ad 0)), (1, .int (nI q)), (2, .ref ao)] := hl
  refine lv_aload_n hx hb dL_append_0 rfl (lv_at hl 2 rfl) ?_
  refine lv_iconst (v := 0) hx hb dL_append_1 (by decide) ?_
  refine lv_aload_n hx hb dL_append_2 rfl (lv_at hl 0 rfl) ?_
  refine lv_iload_n hx hb dL_append_3 rfl (lv_at hl 1 rfl) ?_
  refine vx_calli (vx_runV (As := [.int (nI q)]) (rest := [.int 0, .ref ao]) ⟨hx, hb, hml, hown, hts⟩ (c_X3_append_t2 l D T ad I R hlt q hI3 hq1 hq2) (cwV 1 hts gL_append_X3_append rfl rfl rfl (by decide +kernel) ⟨Nat.le_of_ble_eq_true rfl, Nat.le_of_ble_eq_true rfl⟩) ⟨XR.blind, va_recv hK hP (ci := 3) (q0 := 0) rfl cw_0, XR.pre hP hK hN hXU hXZ hS rfl⟩ rfl rfl hl.1 rfl (lv_room (Nat.le_of_ble_eq_true rfl)) dL_append_4 ⟨Nat.le_of_ble_eq_true rfl, Nat.le_of_ble_eq_true rfl⟩) hS (fun q _ h => h.elim) (fun q h => h.elim) (fun q _ h => h.elim) (fun E ce q9 u t H1 locs1 ht hal _ hE hz hk hS1 hce hcv hcl => ?_) (fun r u t H1 locs1 _ _ hf _ _ _ _ => hf.elim)
  obtain rfl : E = "java/lang/IllegalStateException" := hE
  refine vx_catch (name := "java/lang/IllegalStateException") hown [⟨0, 9, 12, 15⟩] ⟨0, 9, 15, 33⟩ [] ((vx_table (x := yL_append) B (hts _ List.mem_cons_self)).trans rfl) (fun z hz9 => by rcases List.mem_singleton.mp hz9 with rfl; exact Or.inr ⟨by decide, "java/lang/IllegalArgumentException", hts (.classLink RL 15 "java/lang/IllegalArgumentException") (by decide +kernel), hNc.2⟩) (by decide) (by decide) (hts (.classLink RL 33 "java/lang/IllegalStateException") (by decide +kernel)) (va_Nw.use rfl (hXU.1 _ (List.mem_of_getElem? (i := 5) rfl))) hce hcv hcl ?_
  refine lv_astore_n (lv' := [(3, .ref q9), (0, .ref (ad 0)), (1, .int (nI q)), (2, .ref ao)]) hx hb dL_append_15 rfl hl (by decide) rfl (fun ls hl => ?_)
  refine lv_iconst (v := 2) hx hb dL_append_16 (by decide) ?_
  exact W.iret (v := 2) hx hb hr (fun t ht hW => ⟨⟨2, (), rfl, rfl, trivial⟩, hS1.F ht⟩) hS1.2.2 dL_append_17
set_option maxHeartbeats 4000000 in
set_option maxRecDepth 100000 in
theorem h_load_t1 (l : Launch) (D : va_G) (T : Nat → ClassId) (ad : Nat → Nat) (I : Nat → Int32) (R : Nat → Nat → Int32) (ao : Nat) (hlt : l.stackTraces = false) (len : Nat) (hlen : len ≤ 60) (hI3 : I 3 = nI len) (htw : twF (plS (R 18) len) = 0) : Met l yL_load wsL_load ({ frames := 7, cells := 1, slots := 6, locals := 103 }) (va_Pc [.ref (ad 0), .ref ao] (XN D T ad I R)) (RqI 1) 1 6 (fun _ => False) := by
  refine metH_ofW (cc := cL_load) (maxL := 3) (ret := some .int) (by decide) rfl ?_
  intro p e s m args_ below meth c s₁ B hml hv
  obtain ⟨rfl, ⟨⟨hP, hK, hN⟩, hXU, hXZ⟩, hNc⟩ := hv
  have hx := B.exec
  have hb := B.bytes
  have hr := B.returns
  have hts := atoms_spec (ws := wsL_load) B.pre
  have hown : s.vm.findClass RL = some m.cls := findClass_of_methodNamed B.named
  have hlocks := B.notSynchronized
  have hS : va_S (fun _ => False) s.heap s.heap [] := va_S.rf
  have hl := lv_entry ([.ref (ad 0), .ref ao]) (n := 3) (Nat.le_of_ble_eq_true rfl)
  rw [lg_entry_eq]
  generalize (lg_sl ([.ref (ad 0), .ref ao]) ++ List.replicate (3 - (lg_sl ([.ref (ad 0), .ref ao])).length) Slot.unset).toArray = ls at hl ⊢
  have hl : lv_has ls 3 [(0, .ref (ad 0)), (1, .ref ao)] := hl
  refine lv_aload_n hx hb dL_load_0 rfl (lv_at hl 1 rfl) ?_
  refine lv_iconst (v := 0) hx hb dL_load_1 (by decide) ?_
  refine lv_aload_n hx hb dL_load_2 rfl (lv_at hl 0 rfl) ?_
  refine vx_calli (vx_runV (As := []) (rest := [.int 0, .ref ao]) ⟨hx, hb, hml, hown, hts⟩ (c_X3_load_t1 l D T ad I R hlt len hlen hI3 htw) (cwV 0 hts gL_load_X3_load rfl rfl rfl (by decide +kernel) ⟨Nat.le_of_ble_eq_true rfl, Nat.le_of_ble_eq_true rfl⟩) ⟨XR.blind, va_recv hK hP (ci := 3) (q0 := 0) rfl cw_0, XR.pre hP hK hN hXU hXZ hS rfl⟩ rfl rfl hl.1 rfl (lv_room (Nat.le_of_ble_eq_true rfl)) dL_load_3 ⟨Nat.le_of_ble_eq_true rfl, Nat.le_of_ble_eq_true rfl⟩) hS (fun q _ h => h.elim) (fun q h => h.elim) (fun q _ h => h.elim) (fun E ce q9 u t H1 locs1 ht hal _ hE hz hk hS1 hce hcv hcl => ?_) (fun r u t H1 locs1 _ _ hf _ _ _ _ => hf.elim)
  obtain rfl : E = "java/lang/IllegalArgumentException" := hE
  refine vx_catch (name := "java/lang/IllegalArgumentException") hown [] ⟨0, 8, 11, 15⟩ [] ((vx_table (x := yL_load) B (hts _ List.mem_cons_self)).trans rfl) (fun z hz9 => absurd hz9 List.not_mem_nil) (by decide) (by decide) (hts (.classLink RL 15 "java/lang/IllegalArgumentException") (by decide +kernel)) (va_Nw.use rfl (hXU.1 _ (List.mem_of_getElem? (i := 4) rfl))) hce hcv hcl ?_
  refine lv_astore_n (lv' := [(2, .ref q9), (0, .ref (ad 0)), (1, .ref ao)]) hx hb dL_load_11 rfl hl (by decide) rfl (fun ls hl => ?_)
  refine lv_iconst (v := 1) hx hb dL_load_12 (by decide) ?_
  exact W.iret (v := 1) hx hb hr (fun t ht hW => ⟨⟨1, (), rfl, rfl, trivial⟩, hS1.F ht⟩) hS1.2.2 dL_load_13
set_option maxHeartbeats 4000000 in
set_option maxRecDepth 100000 in
theorem h_keep_t1 (l : Launch) (D : va_G) (T : Nat → ClassId) (ad : Nat → Nat) (I : Nat → Int32) (R : Nat → Nat → Int32) (ao : Nat) (hlt : l.stackTraces = false) (x : Int32) (h1 : outI x 0 1 = 1) : Met l yL_keep wsL_keep ({ frames := 7, cells := 1, slots := 6, locals := 103 }) (va_Pc [.ref (ad 0), .int x, .ref ao] (XN D T ad I R)) (RqI 1) 1 6 (fun _ => False) := by
  refine metH_ofW (cc := cL_keep) (maxL := 4) (ret := some .int) (by decide) rfl ?_
  intro p e s m args_ below meth c s₁ B hml hv
  obtain ⟨rfl, ⟨⟨hP, hK, hN⟩, hXU, hXZ⟩, hNc⟩ := hv
  have hx := B.exec
  have hb := B.bytes
  have hr := B.returns
  have hts := atoms_spec (ws := wsL_keep) B.pre
  have hown : s.vm.findClass RL = some m.cls := findClass_of_methodNamed B.named
  have hlocks := B.notSynchronized
  have hS : va_S (fun _ => False) s.heap s.heap [] := va_S.rf
  have hl := lv_entry ([.ref (ad 0), .int x, .ref ao]) (n := 4) (Nat.le_of_ble_eq_true rfl)
  rw [lg_entry_eq]
  generalize (lg_sl ([.ref (ad 0), .int x, .ref ao]) ++ List.replicate (4 - (lg_sl ([.ref (ad 0), .int x, .ref ao])).length) Slot.unset).toArray = ls at hl ⊢
  have hl : lv_has ls 4 [(0, .ref (ad 0)), (1, .int x), (2, .ref ao)] := hl
  refine lv_aload_n hx hb dL_keep_0 rfl (lv_at hl 2 rfl) ?_
  refine lv_iconst (v := 0) hx hb dL_keep_1 (by decide) ?_
  refine lv_aload_n hx hb dL_keep_2 rfl (lv_at hl 0 rfl) ?_
  refine lv_iload_n hx hb dL_keep_3 rfl (lv_at hl 1 rfl) ?_
  refine vx_calli (vx_runV (As := [.int x]) (rest := [.int 0, .ref ao]) ⟨hx, hb, hml, hown, hts⟩ (c_X3_keep_t1 l D T ad I R hlt x h1) (cwV 1 hts gL_keep_X3_keep rfl rfl rfl (by decide +kernel) ⟨Nat.le_of_ble_eq_true rfl, Nat.le_of_ble_eq_true rfl⟩) ⟨XR.blind, va_recv hK hP (ci := 3) (q0 := 0) rfl cw_0, XR.pre hP hK hN hXU hXZ hS rfl⟩ rfl rfl hl.1 rfl (lv_room (Nat.le_of_ble_eq_true rfl)) dL_keep_4 ⟨Nat.le_of_ble_eq_true rfl, Nat.le_of_ble_eq_true rfl⟩) hS (fun q _ h => h.elim) (fun q h => h.elim) (fun q _ h => h.elim) (fun E ce q9 u t H1 locs1 ht hal _ hE hz hk hS1 hce hcv hcl => ?_) (fun r u t H1 locs1 _ _ hf _ _ _ _ => hf.elim)
  obtain rfl : E = "java/lang/IllegalArgumentException" := hE
  refine vx_catch (name := "java/lang/IllegalArgumentException") hown [] ⟨0, 9, 12, 15⟩ [] ((vx_table (x := yL_keep) B (hts _ List.mem_cons_self)).trans rfl) (fun z hz9 => absurd hz9 List.not_mem_nil) (by decide) (by decide) (hts (.classLink RL 15 "java/lang/IllegalArgumentException") (by decide +kernel)) (va_Nw.use rfl (hXU.1 _ (List.mem_of_getElem? (i := 4) rfl))) hce hcv hcl ?_
  refine lv_astore_n (lv' := [(3, .ref q9), (0, .ref (ad 0)), (1, .int x), (2, .ref ao)]) hx hb dL_keep_12 rfl hl (by decide) rfl (fun ls hl => ?_)
  refine lv_iconst (v := 1) hx hb dL_keep_13 (by decide) ?_
  exact W.iret (v := 1) hx hb hr (fun t ht hW => ⟨⟨1, (), rfl, rfl, trivial⟩, hS1.F ht⟩) hS1.2.2 dL_keep_14
set_option maxHeartbeats 4000000 in
set_option maxRecDepth 100000 in
theorem h_goBack_t1 (l : Launch) (D : va_G) (T : Nat → ClassId) (ad : Nat → Nat) (I : Nat → Int32) (R : Nat → Nat → Int32) (ao : Nat) (hlt : l.stackTraces = false) (x : Int32) (h1 : outI x 0 1 = 1) : Met l yL_goBack wsL_goBack ({ frames := 7, cells := 1, slots := 6, locals := 103 }) (va_Pc [.ref (ad 0), .int x, .ref ao] (XN D T ad I R)) (RqI 1) 1 6 (fun _ => False) := by
  refine metH_ofW (cc := cL_goBack) (maxL := 4) (ret := some .int) (by decide) rfl ?_
  intro p e s m args_ below meth c s₁ B hml hv
  obtain ⟨rfl, ⟨⟨hP, hK, hN⟩, hXU, hXZ⟩, hNc⟩ := hv
  have hx := B.exec
  have hb := B.bytes
  have hr := B.returns
  have hts := atoms_spec (ws := wsL_goBack) B.pre
  have hown : s.vm.findClass RL = some m.cls := findClass_of_methodNamed B.named
  have hlocks := B.notSynchronized
  have hS : va_S (fun _ => False) s.heap s.heap [] := va_S.rf
  have hl := lv_entry ([.ref (ad 0), .int x, .ref ao]) (n := 4) (Nat.le_of_ble_eq_true rfl)
  rw [lg_entry_eq]
  generalize (lg_sl ([.ref (ad 0), .int x, .ref ao]) ++ List.replicate (4 - (lg_sl ([.ref (ad 0), .int x, .ref ao])).length) Slot.unset).toArray = ls at hl ⊢
  have hl : lv_has ls 4 [(0, .ref (ad 0)), (1, .int x), (2, .ref ao)] := hl
  refine lv_aload_n hx hb dL_goBack_0 rfl (lv_at hl 2 rfl) ?_
  refine lv_iconst (v := 0) hx hb dL_goBack_1 (by decide) ?_
  refine lv_aload_n hx hb dL_goBack_2 rfl (lv_at hl 0 rfl) ?_
  refine lv_iload_n hx hb dL_goBack_3 rfl (lv_at hl 1 rfl) ?_
  refine vx_calli (vx_runV (As := [.int x]) (rest := [.int 0, .ref ao]) ⟨hx, hb, hml, hown, hts⟩ (c_X3_goBack_t1 l D T ad I R hlt x h1) (cwV 1 hts gL_goBack_X3_goBack rfl rfl rfl (by decide +kernel) ⟨Nat.le_of_ble_eq_true rfl, Nat.le_of_ble_eq_true rfl⟩) ⟨XR.blind, va_recv hK hP (ci := 3) (q0 := 0) rfl cw_0, XR.pre hP hK hN hXU hXZ hS rfl⟩ rfl rfl hl.1 rfl (lv_room (Nat.le_of_ble_eq_true rfl)) dL_goBack_4 ⟨Nat.le_of_ble_eq_true rfl, Nat.le_of_ble_eq_true rfl⟩) hS (fun q _ h => h.elim) (fun q h => h.elim) (fun q _ h => h.elim) (fun E ce q9 u t H1 locs1 ht hal _ hE hz hk hS1 hce hcv hcl => ?_) (fun r u t H1 locs1 _ _ hf _ _ _ _ => hf.elim)
  obtain rfl : E = "java/lang/IllegalArgumentException" := hE
  refine vx_catch (name := "java/lang/IllegalArgumentException") hown [] ⟨0, 9, 12, 15⟩ [⟨0, 9, 15, 33⟩] ((vx_table (x := yL_goBack) B (hts _ List.mem_cons_self)).trans rfl) (fun z hz9 => absurd hz9 List.not_mem_nil) (by decide) (by decide) (hts (.classLink RL 15 "java/lang/IllegalArgumentException") (by decide +kernel)) (va_Nw.use rfl (hXU.1 _ (List.mem_of_getElem? (i := 4) rfl))) hce hcv hcl ?_
  refine lv_astore_n (lv' := [(3, .ref q9), (0, .ref (ad 0)), (1, .int x), (2, .ref ao)]) hx hb dL_goBack_12 rfl hl (by decide) rfl (fun ls hl => ?_)
  refine lv_iconst (v := 1) hx hb dL_goBack_13 (by decide) ?_
  exact W.iret (v := 1) hx hb hr (fun t ht hW => ⟨⟨1, (), rfl, rfl, trivial⟩, hS1.F ht⟩) hS1.2.2 dL_goBack_14
set_option maxHeartbeats 4000000 in
set_option maxRecDepth 100000 in
theorem h_goBack_t2 (l : Launch) (D : va_G) (T : Nat → ClassId) (ad : Nat → Nat) (I : Nat → Int32) (R : Nat → Nat → Int32) (ao : Nat) (hlt : l.stackTraces = false) (ks : Nat) (k : Nat) (hks : ks < 4) (hIk : I 0 = nI ks) (hk : k < 2) (hsn : lbI ks k = 0) : Met l yL_goBack wsL_goBack ({ frames := 7, cells := 1, slots := 6, locals := 103 }) (va_Pc [.ref (ad 0), .int (nI k), .ref ao] (XN D T ad I R)) (RqI 2) 1 6 (fun _ => False) := by
  refine metH_ofW (cc := cL_goBack) (maxL := 4) (ret := some .int) (by decide) rfl ?_
  intro p e s m args_ below meth c s₁ B hml hv
  obtain ⟨rfl, ⟨⟨hP, hK, hN⟩, hXU, hXZ⟩, hNc⟩ := hv
  have hx := B.exec
  have hb := B.bytes
  have hr := B.returns
  have hts := atoms_spec (ws := wsL_goBack) B.pre
  have hown : s.vm.findClass RL = some m.cls := findClass_of_methodNamed B.named
  have hlocks := B.notSynchronized
  have hS : va_S (fun _ => False) s.heap s.heap [] := va_S.rf
  have hl := lv_entry ([.ref (ad 0), .int (nI k), .ref ao]) (n := 4) (Nat.le_of_ble_eq_true rfl)
  rw [lg_entry_eq]
  generalize (lg_sl ([.ref (ad 0), .int (nI k), .ref ao]) ++ List.replicate (4 - (lg_sl ([.ref (ad 0), .int (nI k), .ref ao])).length) Slot.unset).toArray = ls at hl ⊢
  have hl : lv_has ls 4 [(0, .ref (ad 0)), (1, .int (nI k)), (2, .ref ao)] := hl
  refine lv_aload_n hx hb dL_goBack_0 rfl (lv_at hl 2 rfl) ?_
  refine lv_iconst (v := 0) hx hb dL_goBack_1 (by decide) ?_
  refine lv_aload_n hx hb dL_goBack_2 rfl (lv_at hl 0 rfl) ?_
  refine lv_iload_n hx hb dL_goBack_3 rfl (lv_at hl 1 rfl) ?_
  refine vx_calli (vx_runV (As := [.int (nI k)]) (rest := [.int 0, .ref ao]) ⟨hx, hb, hml, hown, hts⟩ (c_X3_goBack_t2 l D T ad I R hlt ks k hks hIk hk hsn) (cwV 1 hts gL_goBack_X3_goBack rfl rfl rfl (by decide +kernel) ⟨Nat.le_of_ble_eq_true rfl, Nat.le_of_ble_eq_true rfl⟩) ⟨XR.blind, va_recv hK hP (ci := 3) (q0 := 0) rfl cw_0, XR.pre hP hK hN hXU hXZ hS rfl⟩ rfl rfl hl.1 rfl (lv_room (Nat.le_of_ble_eq_true rfl)) dL_goBack_4 ⟨Nat.le_of_ble_eq_true rfl, Nat.le_of_ble_eq_true rfl⟩) hS (fun q _ h => h.elim) (fun q h => h.elim) (fun q _ h => h.elim) (fun E ce q9 u t H1 locs1 ht hal _ hE hz hk hS1 hce hcv hcl => ?_) (fun r u t H1 locs1 _ _ hf _ _ _ _ => hf.elim)
  obtain rfl : E = "java/lang/IllegalStateException" := hE
  refine vx_catch (name := "java/lang/IllegalStateException") hown [⟨0, 9, 12, 15⟩] ⟨0, 9, 15, 33⟩ [] ((vx_table (x := yL_goBack) B (hts _ List.mem_cons_self)).trans rfl) (fun z hz9 => by rcases List.mem_singleton.mp hz9 with rfl; exact Or.inr ⟨by decide, "java/lang/IllegalArgumentException", hts (.classLink RL 15 "java/lang/IllegalArgumentException") (by decide +kernel), hNc.2⟩) (by decide) (by decide) (hts (.classLink RL 33 "java/lang/IllegalStateException") (by decide +kernel)) (va_Nw.use rfl (hXU.1 _ (List.mem_of_getElem? (i := 5) rfl))) hce hcv hcl ?_
  refine lv_astore_n (lv' := [(3, .ref q9), (0, .ref (ad 0)), (1, .int (nI k)), (2, .ref ao)]) hx hb dL_goBack_15 rfl hl (by decide) rfl (fun ls hl => ?_)
  refine lv_iconst (v := 2) hx hb dL_goBack_16 (by decide) ?_
  exact W.iret (v := 2) hx hb hr (fun t ht hW => ⟨⟨2, (), rfl, rfl, trivial⟩, hS1.F ht⟩) hS1.2.2 dL_goBack_17
set_option maxHeartbeats 4000000 in
set_option maxRecDepth 100000 in
theorem h_undo_t1 (l : Launch) (D : va_G) (T : Nat → ClassId) (ad : Nat → Nat) (I : Nat → Int32) (R : Nat → Nat → Int32) (ao : Nat) (hlt : l.stackTraces = false) (hI2 : I 2 = 0) : Met l yL_undo wsL_undo ({ frames := 7, cells := 1, slots := 6, locals := 102 }) (va_Pc [.ref (ad 0), .ref ao] (XN D T ad I R)) (RqI 1) 1 6 (fun _ => False) := by
  refine metH_ofW (cc := cL_undo) (maxL := 3) (ret := some .int) (by decide) rfl ?_
  intro p e s m args_ below meth c s₁ B hml hv
  obtain ⟨rfl, ⟨⟨hP, hK, hN⟩, hXU, hXZ⟩, hNc⟩ := hv
  have hx := B.exec
  have hb := B.bytes
  have hr := B.returns
  have hts := atoms_spec (ws := wsL_undo) B.pre
  have hown : s.vm.findClass RL = some m.cls := findClass_of_methodNamed B.named
  have hlocks := B.notSynchronized
  have hS : va_S (fun _ => False) s.heap s.heap [] := va_S.rf
  have hl := lv_entry ([.ref (ad 0), .ref ao]) (n := 3) (Nat.le_of_ble_eq_true rfl)
  rw [lg_entry_eq]
  generalize (lg_sl ([.ref (ad 0), .ref ao]) ++ List.replicate (3 - (lg_sl ([.ref (ad 0), .ref ao])).length) Slot.unset).toArray = ls at hl ⊢
  have hl : lv_has ls 3 [(0, .ref (ad 0)), (1, .ref ao)] := hl
  refine lv_aload_n hx hb dL_undo_0 rfl (lv_at hl 1 rfl) ?_
  refine lv_iconst (v := 0) hx hb dL_undo_1 (by decide) ?_
  refine lv_aload_n hx hb dL_undo_2 rfl (lv_at hl 0 rfl) ?_
  refine vx_calli (vx_runV (As := []) (rest := [.int 0, .ref ao]) ⟨hx, hb, hml, hown, hts⟩ (c_X3_undo_t1 l D T ad I R hlt hI2) (cwV 0 hts gL_undo_X3_undo rfl rfl rfl (by decide +kernel) ⟨Nat.le_of_ble_eq_true rfl, Nat.le_of_ble_eq_true rfl⟩) ⟨XR.blind, va_recv hK hP (ci := 3) (q0 := 0) rfl cw_0, XR.pre hP hK hN hXU hXZ hS rfl⟩ rfl rfl hl.1 rfl (lv_room (Nat.le_of_ble_eq_true rfl)) dL_undo_3 ⟨Nat.le_of_ble_eq_true rfl, Nat.le_of_ble_eq_true rfl⟩) hS (fun q _ h => h.elim) (fun q h => h.elim) (fun q _ h => h.elim) (fun E ce q9 u t H1 locs1 ht hal _ hE hz hk hS1 hce hcv hcl => ?_) (fun r u t H1 locs1 _ _ hf _ _ _ _ => hf.elim)
  obtain rfl : E = "java/lang/IllegalStateException" := hE
  refine vx_catch (name := "java/lang/IllegalStateException") hown [] ⟨0, 8, 11, 33⟩ [] ((vx_table (x := yL_undo) B (hts _ List.mem_cons_self)).trans rfl) (fun z hz9 => absurd hz9 List.not_mem_nil) (by decide) (by decide) (hts (.classLink RL 33 "java/lang/IllegalStateException") (by decide +kernel)) (va_Nw.use rfl (hXU.1 _ (List.mem_of_getElem? (i := 5) rfl))) hce hcv hcl ?_
  refine lv_astore_n (lv' := [(2, .ref q9), (0, .ref (ad 0)), (1, .ref ao)]) hx hb dL_undo_11 rfl hl (by decide) rfl (fun ls hl => ?_)
  refine lv_iconst (v := 1) hx hb dL_undo_12 (by decide) ?_
  exact W.iret (v := 1) hx hb hr (fun t ht hW => ⟨⟨1, (), rfl, rfl, trivial⟩, hS1.F ht⟩) hS1.2.2 dL_undo_13
set_option maxHeartbeats 4000000 in
set_option maxRecDepth 100000 in
theorem h_wheelOf_t1 (l : Launch) (D : va_G) (T : Nat → ClassId) (ad : Nat → Nat) (I : Nat → Int32) (R : Nat → Nat → Int32) (ao : Nat) (hlt : l.stackTraces = false) (v : Int32) (x : Int32) (h1 : outI v 0 7 = 1) : Met l yL_wheelOf wsL_wheelOf ({ frames := 7, cells := 1, slots := 6, locals := 104 }) (va_Pc [.ref (ad 0), .int v, .int x, .ref ao] (XN D T ad I R)) (RqI 1) 1 6 (fun _ => False) := by
  refine metH_ofW (cc := cL_wheelOf) (maxL := 5) (ret := some .int) (by decide) rfl ?_
  intro p e s m args_ below meth c s₁ B hml hv
  obtain ⟨rfl, ⟨⟨hP, hK, hN⟩, hXU, hXZ⟩, hNc⟩ := hv
  have hx := B.exec
  have hb := B.bytes
  have hr := B.returns
  have hts := atoms_spec (ws := wsL_wheelOf) B.pre
  have hown : s.vm.findClass RL = some m.cls := findClass_of_methodNamed B.named
  have hlocks := B.notSynchronized
  have hS : va_S (fun _ => False) s.heap s.heap [] := va_S.rf
  have hl := lv_entry ([.ref (ad 0), .int v, .int x, .ref ao]) (n := 5) (Nat.le_of_ble_eq_true rfl)
  rw [lg_entry_eq]
  generalize (lg_sl ([.ref (ad 0), .int v, .int x, .ref ao]) ++ List.replicate (5 - (lg_sl ([.ref (ad 0), .int v, .int x, .ref ao])).length) Slot.unset).toArray = ls at hl ⊢
  have hl : lv_has ls 5 [(0, .ref (ad 0)), (1, .int v), (2, .int x), (3, .ref ao)] := hl
  refine lv_aload_n hx hb dL_wheelOf_0 rfl (lv_at hl 3 rfl) ?_
  refine lv_iconst (v := 0) hx hb dL_wheelOf_1 (by decide) ?_
  refine lv_aload_n hx hb dL_wheelOf_2 rfl (lv_at hl 0 rfl) ?_
  refine lv_iload_n hx hb dL_wheelOf_3 rfl (lv_at hl 1 rfl) ?_
  refine lv_iload_n hx hb dL_wheelOf_4 rfl (lv_at hl 2 rfl) ?_
  refine vx_calli (vx_runV (As := [.int v, .int x]) (rest := [.int 0, .ref ao]) ⟨hx, hb, hml, hown, hts⟩ (c_X3_wheelOf_t1 l D T ad I R hlt v x h1) (cwV 2 hts gL_wheelOf_X3_wheelOf rfl rfl rfl (by decide +kernel) ⟨Nat.le_of_ble_eq_true rfl, Nat.le_of_ble_eq_true rfl⟩) ⟨XR.blind, va_recv hK hP (ci := 3) (q0 := 0) rfl cw_0, XR.pre hP hK hN hXU hXZ hS rfl⟩ rfl rfl hl.1 rfl (lv_room (Nat.le_of_ble_eq_true rfl)) dL_wheelOf_5 ⟨Nat.le_of_ble_eq_true rfl, Nat.le_of_ble_eq_true rfl⟩) hS (fun q _ h => h.elim) (fun q h => h.elim) (fun q _ h => h.elim) (fun E ce q9 u t H1 locs1 ht hal _ hE hz hk hS1 hce hcv hcl => ?_) (fun r u t H1 locs1 _ _ hf _ _ _ _ => hf.elim)
  obtain rfl : E = "java/lang/IndexOutOfBoundsException" := hE
  refine vx_catch (name := "java/lang/IndexOutOfBoundsException") hown [] ⟨0, 10, 13, 13⟩ [⟨0, 10, 17, 15⟩] ((vx_table (x := yL_wheelOf) B (hts _ List.mem_cons_self)).trans rfl) (fun z hz9 => absurd hz9 List.not_mem_nil) (by decide) (by decide) (hts (.classLink RL 13 "java/lang/IndexOutOfBoundsException") (by decide +kernel)) (va_Nw.use rfl (hXU.1 _ (List.mem_of_getElem? (i := 3) rfl))) hce hcv hcl ?_
  refine lv_astore (lv' := [(4, .ref q9), (0, .ref (ad 0)), (1, .int v), (2, .int x), (3, .ref ao)]) hx hb dL_wheelOf_13 hl (by decide) rfl (fun ls hl => ?_)
  refine lv_iconst (v := 1) hx hb dL_wheelOf_15 (by decide) ?_
  exact W.iret (v := 1) hx hb hr (fun t ht hW => ⟨⟨1, (), rfl, rfl, trivial⟩, hS1.F ht⟩) hS1.2.2 dL_wheelOf_16
set_option maxHeartbeats 4000000 in
set_option maxRecDepth 100000 in
theorem h_wheelOf_t2 (l : Launch) (D : va_G) (T : Nat → ClassId) (ad : Nat → Nat) (I : Nat → Int32) (R : Nat → Nat → Int32) (ao : Nat) (hlt : l.stackTraces = false) (k : Nat) (x : Int32) (hk : k < 8) (h1 : outI x 0 3 = 1) : Met l yL_wheelOf wsL_wheelOf ({ frames := 7, cells := 1, slots := 6, locals := 104 }) (va_Pc [.ref (ad 0), .int (nI k), .int x, .ref ao] (XN D T ad I R)) (RqI 2) 1 6 (fun _ => False) := by
  refine metH_ofW (cc := cL_wheelOf) (maxL := 5) (ret := some .int) (by decide) rfl ?_
  intro p e s m args_ below meth c s₁ B hml hv
  obtain ⟨rfl, ⟨⟨hP, hK, hN⟩, hXU, hXZ⟩, hNc⟩ := hv
  have hx := B.exec
  have hb := B.bytes
  have hr := B.returns
  have hts := atoms_spec (ws := wsL_wheelOf) B.pre
  have hown : s.vm.findClass RL = some m.cls := findClass_of_methodNamed B.named
  have hlocks := B.notSynchronized
  have hS : va_S (fun _ => False) s.heap s.heap [] := va_S.rf
  have hl := lv_entry ([.ref (ad 0), .int (nI k), .int x, .ref ao]) (n := 5) (Nat.le_of_ble_eq_true rfl)
  rw [lg_entry_eq]
  generalize (lg_sl ([.ref (ad 0), .int (nI k), .int x, .ref ao]) ++ List.replicate (5 - (lg_sl ([.ref (ad 0), .int (nI k), .int x, .ref ao])).length) Slot.unset).toArray = ls at hl ⊢
  have hl : lv_has ls 5 [(0, .ref (ad 0)), (1, .int (nI k)), (2, .int x), (3, .ref ao)] := hl
  refine lv_aload_n hx hb dL_wheelOf_0 rfl (lv_at hl 3 rfl) ?_
  refine lv_iconst (v := 0) hx hb dL_wheelOf_1 (by decide) ?_
  refine lv_aload_n hx hb dL_wheelOf_2 rfl (lv_at hl 0 rfl) ?_
  refine lv_iload_n hx hb dL_wheelOf_3 rfl (lv_at hl 1 rfl) ?_
  refine lv_iload_n hx hb dL_wheelOf_4 rfl (lv_at hl 2 rfl) ?_
  refine vx_calli (vx_runV (As := [.int (nI k), .int x]) (rest := [.int 0, .ref ao]) ⟨hx, hb, hml, hown, hts⟩ (c_X3_wheelOf_t2 l D T ad I R hlt k x hk h1) (cwV 2 hts gL_wheelOf_X3_wheelOf rfl rfl rfl (by decide +kernel) ⟨Nat.le_of_ble_eq_true rfl, Nat.le_of_ble_eq_true rfl⟩) ⟨XR.blind, va_recv hK hP (ci := 3) (q0 := 0) rfl cw_0, XR.pre hP hK hN hXU hXZ hS rfl⟩ rfl rfl hl.1 rfl (lv_room (Nat.le_of_ble_eq_true rfl)) dL_wheelOf_5 ⟨Nat.le_of_ble_eq_true rfl, Nat.le_of_ble_eq_true rfl⟩) hS (fun q _ h => h.elim) (fun q h => h.elim) (fun q _ h => h.elim) (fun E ce q9 u t H1 locs1 ht hal _ hE hz hk hS1 hce hcv hcl => ?_) (fun r u t H1 locs1 _ _ hf _ _ _ _ => hf.elim)
  obtain rfl : E = "java/lang/IllegalArgumentException" := hE
  refine vx_catch (name := "java/lang/IllegalArgumentException") hown [⟨0, 10, 13, 13⟩] ⟨0, 10, 17, 15⟩ [] ((vx_table (x := yL_wheelOf) B (hts _ List.mem_cons_self)).trans rfl) (fun z hz9 => by rcases List.mem_singleton.mp hz9 with rfl; exact Or.inr ⟨by decide, "java/lang/IndexOutOfBoundsException", hts (.classLink RL 13 "java/lang/IndexOutOfBoundsException") (by decide +kernel), hNc.1⟩) (by decide) (by decide) (hts (.classLink RL 15 "java/lang/IllegalArgumentException") (by decide +kernel)) (va_Nw.use rfl (hXU.1 _ (List.mem_of_getElem? (i := 4) rfl))) hce hcv hcl ?_
  refine lv_astore (lv' := [(4, .ref q9), (0, .ref (ad 0)), (1, .int (nI k)), (2, .int x), (3, .ref ao)]) hx hb dL_wheelOf_17 hl (by decide) rfl (fun ls hl => ?_)
  refine lv_iconst (v := 2) hx hb dL_wheelOf_19 (by decide) ?_
  exact W.iret (v := 2) hx hb hr (fun t ht hW => ⟨⟨2, (), rfl, rfl, trivial⟩, hS1.F ht⟩) hS1.2.2 dL_wheelOf_20
set_option maxHeartbeats 4000000 in
set_option maxRecDepth 100000 in
theorem h_trace_t1 (l : Launch) (D : va_G) (T : Nat → ClassId) (ad : Nat → Nat) (I : Nat → Int32) (R : Nat → Nat → Int32) (ao : Nat) (hlt : l.stackTraces = false) (v : Int32) (x : Int32) (h1 : outI v 0 7 = 1) : Met l yL_trace wsL_trace ({ frames := 7, cells := 1, slots := 6, locals := 104 }) (va_Pc [.ref (ad 0), .int v, .int x, .ref ao] (XN D T ad I R)) (RqI 1) 1 6 (fun _ => False) := by
  refine metH_ofW (cc := cL_trace) (maxL := 5) (ret := some .int) (by decide) rfl ?_
  intro p e s m args_ below meth c s₁ B hml hv
  obtain ⟨rfl, ⟨⟨hP, hK, hN⟩, hXU, hXZ⟩, hNc⟩ := hv
  have hx := B.exec
  have hb := B.bytes
  have hr := B.returns
  have hts := atoms_spec (ws := wsL_trace) B.pre
  have hown : s.vm.findClass RL = some m.cls := findClass_of_methodNamed B.named
  have hlocks := B.notSynchronized
  have hS : va_S (fun _ => False) s.heap s.heap [] := va_S.rf
  have hl := lv_entry ([.ref (ad 0), .int v, .int x, .ref ao]) (n := 5) (Nat.le_of_ble_eq_true rfl)
  rw [lg_entry_eq]
  generalize (lg_sl ([.ref (ad 0), .int v, .int x, .ref ao]) ++ List.replicate (5 - (lg_sl ([.ref (ad 0), .int v, .int x, .ref ao])).length) Slot.unset).toArray = ls at hl ⊢
  have hl : lv_has ls 5 [(0, .ref (ad 0)), (1, .int v), (2, .int x), (3, .ref ao)] := hl
  refine lv_aload_n hx hb dL_trace_0 rfl (lv_at hl 3 rfl) ?_
  refine lv_iconst (v := 0) hx hb dL_trace_1 (by decide) ?_
  refine lv_aload_n hx hb dL_trace_2 rfl (lv_at hl 0 rfl) ?_
  refine lv_iload_n hx hb dL_trace_3 rfl (lv_at hl 1 rfl) ?_
  refine lv_iload_n hx hb dL_trace_4 rfl (lv_at hl 2 rfl) ?_
  refine vx_calli (vx_runV (As := [.int v, .int x]) (rest := [.int 0, .ref ao]) ⟨hx, hb, hml, hown, hts⟩ (c_X3_trace_t1 l D T ad I R hlt v x h1) (cwV 2 hts gL_trace_X3_trace rfl rfl rfl (by decide +kernel) ⟨Nat.le_of_ble_eq_true rfl, Nat.le_of_ble_eq_true rfl⟩) ⟨XR.blind, va_recv hK hP (ci := 3) (q0 := 0) rfl cw_0, XR.pre hP hK hN hXU hXZ hS rfl⟩ rfl rfl hl.1 rfl (lv_room (Nat.le_of_ble_eq_true rfl)) dL_trace_5 ⟨Nat.le_of_ble_eq_true rfl, Nat.le_of_ble_eq_true rfl⟩) hS (fun q _ h => h.elim) (fun q h => h.elim) (fun q _ h => h.elim) (fun E ce q9 u t H1 locs1 ht hal _ hE hz hk hS1 hce hcv hcl => ?_) (fun r u t H1 locs1 _ _ hf _ _ _ _ => hf.elim)
  obtain rfl : E = "java/lang/IndexOutOfBoundsException" := hE
  refine vx_catch (name := "java/lang/IndexOutOfBoundsException") hown [] ⟨0, 10, 13, 13⟩ [⟨0, 10, 17, 15⟩] ((vx_table (x := yL_trace) B (hts _ List.mem_cons_self)).trans rfl) (fun z hz9 => absurd hz9 List.not_mem_nil) (by decide) (by decide) (hts (.classLink RL 13 "java/lang/IndexOutOfBoundsException") (by decide +kernel)) (va_Nw.use rfl (hXU.1 _ (List.mem_of_getElem? (i := 3) rfl))) hce hcv hcl ?_
  refine lv_astore (lv' := [(4, .ref q9), (0, .ref (ad 0)), (1, .int v), (2, .int x), (3, .ref ao)]) hx hb dL_trace_13 hl (by decide) rfl (fun ls hl => ?_)
  refine lv_iconst (v := 1) hx hb dL_trace_15 (by decide) ?_
  exact W.iret (v := 1) hx hb hr (fun t ht hW => ⟨⟨1, (), rfl, rfl, trivial⟩, hS1.F ht⟩) hS1.2.2 dL_trace_16
set_option maxHeartbeats 4000000 in
set_option maxRecDepth 100000 in
theorem h_trace_t2 (l : Launch) (D : va_G) (T : Nat → ClassId) (ad : Nat → Nat) (I : Nat → Int32) (R : Nat → Nat → Int32) (ao : Nat) (hlt : l.stackTraces = false) (k : Nat) (x : Int32) (hk : k < 8) (h1 : outI x 0 1 = 1) : Met l yL_trace wsL_trace ({ frames := 7, cells := 1, slots := 6, locals := 104 }) (va_Pc [.ref (ad 0), .int (nI k), .int x, .ref ao] (XN D T ad I R)) (RqI 2) 1 6 (fun _ => False) := by
  refine metH_ofW (cc := cL_trace) (maxL := 5) (ret := some .int) (by decide) rfl ?_
  intro p e s m args_ below meth c s₁ B hml hv
  obtain ⟨rfl, ⟨⟨hP, hK, hN⟩, hXU, hXZ⟩, hNc⟩ := hv
  have hx := B.exec
  have hb := B.bytes
  have hr := B.returns
  have hts := atoms_spec (ws := wsL_trace) B.pre
  have hown : s.vm.findClass RL = some m.cls := findClass_of_methodNamed B.named
  have hlocks := B.notSynchronized
  have hS : va_S (fun _ => False) s.heap s.heap [] := va_S.rf
  have hl := lv_entry ([.ref (ad 0), .int (nI k), .int x, .ref ao]) (n := 5) (Nat.le_of_ble_eq_true rfl)
  rw [lg_entry_eq]
  generalize (lg_sl ([.ref (ad 0), .int (nI k), .int x, .ref ao]) ++ List.replicate (5 - (lg_sl ([.ref (ad 0), .int (nI k), .int x, .ref ao])).length) Slot.unset).toArray = ls at hl ⊢
  have hl : lv_has ls 5 [(0, .ref (ad 0)), (1, .int (nI k)), (2, .int x), (3, .ref ao)] := hl
  refine lv_aload_n hx hb dL_trace_0 rfl (lv_at hl 3 rfl) ?_
  refine lv_iconst (v := 0) hx hb dL_trace_1 (by decide) ?_
  refine lv_aload_n hx hb dL_trace_2 rfl (lv_at hl 0 rfl) ?_
  refine lv_iload_n hx hb dL_trace_3 rfl (lv_at hl 1 rfl) ?_
  refine lv_iload_n hx hb dL_trace_4 rfl (lv_at hl 2 rfl) ?_
  refine vx_calli (vx_runV (As := [.int (nI k), .int x]) (rest := [.int 0, .ref ao]) ⟨hx, hb, hml, hown, hts⟩ (c_X3_trace_t2 l D T ad I R hlt k x hk h1) (cwV 2 hts gL_trace_X3_trace rfl rfl rfl (by decide +kernel) ⟨Nat.le_of_ble_eq_true rfl, Nat.le_of_ble_eq_true rfl⟩) ⟨XR.blind, va_recv hK hP (ci := 3) (q0 := 0) rfl cw_0, XR.pre hP hK hN hXU hXZ hS rfl⟩ rfl rfl hl.1 rfl (lv_room (Nat.le_of_ble_eq_true rfl)) dL_trace_5 ⟨Nat.le_of_ble_eq_true rfl, Nat.le_of_ble_eq_true rfl⟩) hS (fun q _ h => h.elim) (fun q h => h.elim) (fun q _ h => h.elim) (fun E ce q9 u t H1 locs1 ht hal _ hE hz hk hS1 hce hcv hcl => ?_) (fun r u t H1 locs1 _ _ hf _ _ _ _ => hf.elim)
  obtain rfl : E = "java/lang/IllegalArgumentException" := hE
  refine vx_catch (name := "java/lang/IllegalArgumentException") hown [⟨0, 10, 13, 13⟩] ⟨0, 10, 17, 15⟩ [] ((vx_table (x := yL_trace) B (hts _ List.mem_cons_self)).trans rfl) (fun z hz9 => by rcases List.mem_singleton.mp hz9 with rfl; exact Or.inr ⟨by decide, "java/lang/IndexOutOfBoundsException", hts (.classLink RL 13 "java/lang/IndexOutOfBoundsException") (by decide +kernel), hNc.1⟩) (by decide) (by decide) (hts (.classLink RL 15 "java/lang/IllegalArgumentException") (by decide +kernel)) (va_Nw.use rfl (hXU.1 _ (List.mem_of_getElem? (i := 4) rfl))) hce hcv hcl ?_
  refine lv_astore (lv' := [(4, .ref q9), (0, .ref (ad 0)), (1, .int (nI k)), (2, .int x), (3, .ref ao)]) hx hb dL_trace_17 hl (by decide) rfl (fun ls hl => ?_)
  refine lv_iconst (v := 2) hx hb dL_trace_19 (by decide) ?_
  exact W.iret (v := 2) hx hb hr (fun t ht hW => ⟨⟨2, (), rfl, rfl, trivial⟩, hS1.F ht⟩) hS1.2.2 dL_trace_20
set_option maxHeartbeats 4000000 in
set_option maxRecDepth 100000 in
theorem h_pointOf_t1 (l : Launch) (D : va_G) (T : Nat → ClassId) (ad : Nat → Nat) (I : Nat → Int32) (R : Nat → Nat → Int32) (ao : Nat) (hlt : l.stackTraces = false) (v : Int32) (x : Int32) (h1 : outI v 0 7 = 1) : Met l yL_pointOf wsL_pointOf ({ frames := 7, cells := 1, slots := 6, locals := 104 }) (va_Pc [.ref (ad 0), .int v, .int x, .ref ao] (XN D T ad I R)) (RqI 1) 1 6 (fun _ => False) := by
  refine metH_ofW (cc := cL_pointOf) (maxL := 5) (ret := some .int) (by decide) rfl ?_
  intro p e s m args_ below meth c s₁ B hml hv
  obtain ⟨rfl, ⟨⟨hP, hK, hN⟩, hXU, hXZ⟩, hNc⟩ := hv
  have hx := B.exec
  have hb := B.bytes
  have hr := B.returns
  have hts := atoms_spec (ws := wsL_pointOf) B.pre
  have hown : s.vm.findClass RL = some m.cls := findClass_of_methodNamed B.named
  have hlocks := B.notSynchronized
  have hS : va_S (fun _ => False) s.heap s.heap [] := va_S.rf
  have hl := lv_entry ([.ref (ad 0), .int v, .int x, .ref ao]) (n := 5) (Nat.le_of_ble_eq_true rfl)
  rw [lg_entry_eq]
  generalize (lg_sl ([.ref (ad 0), .int v, .int x, .ref ao]) ++ List.replicate (5 - (lg_sl ([.ref (ad 0), .int v, .int x, .ref ao])).length) Slot.unset).toArray = ls at hl ⊢
  have hl : lv_has ls 5 [(0, .ref (ad 0)), (1, .int v), (2, .int x), (3, .ref ao)] := hl
  refine lv_aload_n hx hb dL_pointOf_0 rfl (lv_at hl 3 rfl) ?_
  refine lv_iconst (v := 0) hx hb dL_pointOf_1 (by decide) ?_
  refine lv_aload_n hx hb dL_pointOf_2 rfl (lv_at hl 0 rfl) ?_
  refine lv_iload_n hx hb dL_pointOf_3 rfl (lv_at hl 1 rfl) ?_
  refine lv_iload_n hx hb dL_pointOf_4 rfl (lv_at hl 2 rfl) ?_
  refine vx_calli (vx_runV (As := [.int v, .int x]) (rest := [.int 0, .ref ao]) ⟨hx, hb, hml, hown, hts⟩ (c_X3_pointOf_t1 l D T ad I R hlt v x h1) (cwV 2 hts gL_pointOf_X3_pointOf rfl rfl rfl (by decide +kernel) ⟨Nat.le_of_ble_eq_true rfl, Nat.le_of_ble_eq_true rfl⟩) ⟨XR.blind, va_recv hK hP (ci := 3) (q0 := 0) rfl cw_0, XR.pre hP hK hN hXU hXZ hS rfl⟩ rfl rfl hl.1 rfl (lv_room (Nat.le_of_ble_eq_true rfl)) dL_pointOf_5 ⟨Nat.le_of_ble_eq_true rfl, Nat.le_of_ble_eq_true rfl⟩) hS (fun q _ h => h.elim) (fun q h => h.elim) (fun q _ h => h.elim) (fun E ce q9 u t H1 locs1 ht hal _ hE hz hk hS1 hce hcv hcl => ?_) (fun r u t H1 locs1 _ _ hf _ _ _ _ => hf.elim)
  obtain rfl : E = "java/lang/IndexOutOfBoundsException" := hE
  refine vx_catch (name := "java/lang/IndexOutOfBoundsException") hown [] ⟨0, 10, 13, 13⟩ [⟨0, 10, 17, 15⟩] ((vx_table (x := yL_pointOf) B (hts _ List.mem_cons_self)).trans rfl) (fun z hz9 => absurd hz9 List.not_mem_nil) (by decide) (by decide) (hts (.classLink RL 13 "java/lang/IndexOutOfBoundsException") (by decide +kernel)) (va_Nw.use rfl (hXU.1 _ (List.mem_of_getElem? (i := 3) rfl))) hce hcv hcl ?_
  refine lv_astore (lv' := [(4, .ref q9), (0, .ref (ad 0)), (1, .int v), (2, .int x), (3, .ref ao)]) hx hb dL_pointOf_13 hl (by decide) rfl (fun ls hl => ?_)
  refine lv_iconst (v := 1) hx hb dL_pointOf_15 (by decide) ?_
  exact W.iret (v := 1) hx hb hr (fun t ht hW => ⟨⟨1, (), rfl, rfl, trivial⟩, hS1.F ht⟩) hS1.2.2 dL_pointOf_16
set_option maxHeartbeats 4000000 in
set_option maxRecDepth 100000 in
theorem h_pointOf_t2 (l : Launch) (D : va_G) (T : Nat → ClassId) (ad : Nat → Nat) (I : Nat → Int32) (R : Nat → Nat → Int32) (ao : Nat) (hlt : l.stackTraces = false) (k : Nat) (x : Int32) (hk : k < 8) (h1 : outI x 0 2 = 1) : Met l yL_pointOf wsL_pointOf ({ frames := 7, cells := 1, slots := 6, locals := 104 }) (va_Pc [.ref (ad 0), .int (nI k), .int x, .ref ao] (XN D T ad I R)) (RqI 2) 1 6 (fun _ => False) := by
  refine metH_ofW (cc := cL_pointOf) (maxL := 5) (ret := some .int) (by decide) rfl ?_
  intro p e s m args_ below meth c s₁ B hml hv
  obtain ⟨rfl, ⟨⟨hP, hK, hN⟩, hXU, hXZ⟩, hNc⟩ := hv
  have hx := B.exec
  have hb := B.bytes
  have hr := B.returns
  have hts := atoms_spec (ws := wsL_pointOf) B.pre
  have hown : s.vm.findClass RL = some m.cls := findClass_of_methodNamed B.named
  have hlocks := B.notSynchronized
  have hS : va_S (fun _ => False) s.heap s.heap [] := va_S.rf
  have hl := lv_entry ([.ref (ad 0), .int (nI k), .int x, .ref ao]) (n := 5) (Nat.le_of_ble_eq_true rfl)
  rw [lg_entry_eq]
  generalize (lg_sl ([.ref (ad 0), .int (nI k), .int x, .ref ao]) ++ List.replicate (5 - (lg_sl ([.ref (ad 0), .int (nI k), .int x, .ref ao])).length) Slot.unset).toArray = ls at hl ⊢
  have hl : lv_has ls 5 [(0, .ref (ad 0)), (1, .int (nI k)), (2, .int x), (3, .ref ao)] := hl
  refine lv_aload_n hx hb dL_pointOf_0 rfl (lv_at hl 3 rfl) ?_
  refine lv_iconst (v := 0) hx hb dL_pointOf_1 (by decide) ?_
  refine lv_aload_n hx hb dL_pointOf_2 rfl (lv_at hl 0 rfl) ?_
  refine lv_iload_n hx hb dL_pointOf_3 rfl (lv_at hl 1 rfl) ?_
  refine lv_iload_n hx hb dL_pointOf_4 rfl (lv_at hl 2 rfl) ?_
  refine vx_calli (vx_runV (As := [.int (nI k), .int x]) (rest := [.int 0, .ref ao]) ⟨hx, hb, hml, hown, hts⟩ (c_X3_pointOf_t2 l D T ad I R hlt k x hk h1) (cwV 2 hts gL_pointOf_X3_pointOf rfl rfl rfl (by decide +kernel) ⟨Nat.le_of_ble_eq_true rfl, Nat.le_of_ble_eq_true rfl⟩) ⟨XR.blind, va_recv hK hP (ci := 3) (q0 := 0) rfl cw_0, XR.pre hP hK hN hXU hXZ hS rfl⟩ rfl rfl hl.1 rfl (lv_room (Nat.le_of_ble_eq_true rfl)) dL_pointOf_5 ⟨Nat.le_of_ble_eq_true rfl, Nat.le_of_ble_eq_true rfl⟩) hS (fun q _ h => h.elim) (fun q h => h.elim) (fun q _ h => h.elim) (fun E ce q9 u t H1 locs1 ht hal _ hE hz hk hS1 hce hcv hcl => ?_) (fun r u t H1 locs1 _ _ hf _ _ _ _ => hf.elim)
  obtain rfl : E = "java/lang/IllegalArgumentException" := hE
  refine vx_catch (name := "java/lang/IllegalArgumentException") hown [⟨0, 10, 13, 13⟩] ⟨0, 10, 17, 15⟩ [] ((vx_table (x := yL_pointOf) B (hts _ List.mem_cons_self)).trans rfl) (fun z hz9 => by rcases List.mem_singleton.mp hz9 with rfl; exact Or.inr ⟨by decide, "java/lang/IndexOutOfBoundsException", hts (.classLink RL 13 "java/lang/IndexOutOfBoundsException") (by decide +kernel), hNc.1⟩) (by decide) (by decide) (hts (.classLink RL 15 "java/lang/IllegalArgumentException") (by decide +kernel)) (va_Nw.use rfl (hXU.1 _ (List.mem_of_getElem? (i := 4) rfl))) hce hcv hcl ?_
  refine lv_astore (lv' := [(4, .ref q9), (0, .ref (ad 0)), (1, .int (nI k)), (2, .int x), (3, .ref ao)]) hx hb dL_pointOf_17 hl (by decide) rfl (fun ls hl => ?_)
  refine lv_iconst (v := 2) hx hb dL_pointOf_19 (by decide) ?_
  exact W.iret (v := 2) hx hb hr (fun t ht hW => ⟨⟨2, (), rfl, rfl, trivial⟩, hS1.F ht⟩) hS1.2.2 dL_pointOf_20
set_option maxHeartbeats 4000000 in
set_option maxRecDepth 100000 in
theorem h_count_t1 (l : Launch) (D : va_G) (T : Nat → ClassId) (ad : Nat → Nat) (I : Nat → Int32) (R : Nat → Nat → Int32) (ao : Nat) (hlt : l.stackTraces = false) (x : Int32) (h1 : outI x 0 8 = 1) : Met l yL_count wsL_count ({ frames := 7, cells := 1, slots := 6, locals := 103 }) (va_Pc [.ref (ad 0), .int x, .ref ao] (XN D T ad I R)) (RqI 1) 1 6 (fun _ => False) := by
  refine metH_ofW (cc := cL_count) (maxL := 4) (ret := some .int) (by decide) rfl ?_
  intro p e s m args_ below meth c s₁ B hml hv
  obtain ⟨rfl, ⟨⟨hP, hK, hN⟩, hXU, hXZ⟩, hNc⟩ := hv
  have hx := B.exec
  have hb := B.bytes
  have hr := B.returns
  have hts := atoms_spec (ws := wsL_count) B.pre
  have hown : s.vm.findClass RL = some m.cls := findClass_of_methodNamed B.named
  have hlocks := B.notSynchronized
  have hS : va_S (fun _ => False) s.heap s.heap [] := va_S.rf
  have hl := lv_entry ([.ref (ad 0), .int x, .ref ao]) (n := 4) (Nat.le_of_ble_eq_true rfl)
  rw [lg_entry_eq]
  generalize (lg_sl ([.ref (ad 0), .int x, .ref ao]) ++ List.replicate (4 - (lg_sl ([.ref (ad 0), .int x, .ref ao])).length) Slot.unset).toArray = ls at hl ⊢
  have hl : lv_has ls 4 [(0, .ref (ad 0)), (1, .int x), (2, .ref ao)] := hl
  refine lv_aload_n hx hb dL_count_0 rfl (lv_at hl 2 rfl) ?_
  refine lv_iconst (v := 0) hx hb dL_count_1 (by decide) ?_
  refine lv_aload_n hx hb dL_count_2 rfl (lv_at hl 0 rfl) ?_
  refine lv_iload_n hx hb dL_count_3 rfl (lv_at hl 1 rfl) ?_
  refine vx_calli (vx_runV (As := [.int x]) (rest := [.int 0, .ref ao]) ⟨hx, hb, hml, hown, hts⟩ (c_X3_count_t1 l D T ad I R hlt x h1) (cwV 1 hts gL_count_X3_count rfl rfl rfl (by decide +kernel) ⟨Nat.le_of_ble_eq_true rfl, Nat.le_of_ble_eq_true rfl⟩) ⟨XR.blind, va_recv hK hP (ci := 3) (q0 := 0) rfl cw_0, XR.pre hP hK hN hXU hXZ hS rfl⟩ rfl rfl hl.1 rfl (lv_room (Nat.le_of_ble_eq_true rfl)) dL_count_4 ⟨Nat.le_of_ble_eq_true rfl, Nat.le_of_ble_eq_true rfl⟩) hS (fun q _ h => h.elim) (fun q h => h.elim) (fun q _ h => h.elim) (fun E ce q9 u t H1 locs1 ht hal _ hE hz hk hS1 hce hcv hcl => ?_) (fun r u t H1 locs1 _ _ hf _ _ _ _ => hf.elim)
  obtain rfl : E = "java/lang/IllegalArgumentException" := hE
  refine vx_catch (name := "java/lang/IllegalArgumentException") hown [] ⟨0, 9, 12, 15⟩ [] ((vx_table (x := yL_count) B (hts _ List.mem_cons_self)).trans rfl) (fun z hz9 => absurd hz9 List.not_mem_nil) (by decide) (by decide) (hts (.classLink RL 15 "java/lang/IllegalArgumentException") (by decide +kernel)) (va_Nw.use rfl (hXU.1 _ (List.mem_of_getElem? (i := 4) rfl))) hce hcv hcl ?_
  refine lv_astore_n (lv' := [(3, .ref q9), (0, .ref (ad 0)), (1, .int x), (2, .ref ao)]) hx hb dL_count_12 rfl hl (by decide) rfl (fun ls hl => ?_)
  refine lv_iconst (v := 1) hx hb dL_count_13 (by decide) ?_
  exact W.iret (v := 1) hx hb hr (fun t ht hW => ⟨⟨1, (), rfl, rfl, trivial⟩, hS1.F ht⟩) hS1.2.2 dL_count_14
set_option maxHeartbeats 4000000 in
set_option maxRecDepth 100000 in
theorem h_enough_t1 (l : Launch) (D : va_G) (T : Nat → ClassId) (ad : Nat → Nat) (I : Nat → Int32) (R : Nat → Nat → Int32) (ao : Nat) (hlt : l.stackTraces = false) (x : Int32) (y : Int32) (h1 : outI x 0 9999999 = 1) : Met l yL_enough wsL_enough ({ frames := 7, cells := 1, slots := 6, locals := 104 }) (va_Pc [.ref (ad 0), .int x, .int y, .ref ao] (XN D T ad I R)) (RqI 1) 1 6 (fun _ => False) := by
  refine metH_ofW (cc := cL_enough) (maxL := 5) (ret := some .int) (by decide) rfl ?_
  intro p e s m args_ below meth c s₁ B hml hv
  obtain ⟨rfl, ⟨⟨hP, hK, hN⟩, hXU, hXZ⟩, hNc⟩ := hv
  have hx := B.exec
  have hb := B.bytes
  have hr := B.returns
  have hts := atoms_spec (ws := wsL_enough) B.pre
  have hown : s.vm.findClass RL = some m.cls := findClass_of_methodNamed B.named
  have hlocks := B.notSynchronized
  have hS : va_S (fun _ => False) s.heap s.heap [] := va_S.rf
  have hl := lv_entry ([.ref (ad 0), .int x, .int y, .ref ao]) (n := 5) (Nat.le_of_ble_eq_true rfl)
  rw [lg_entry_eq]
  generalize (lg_sl ([.ref (ad 0), .int x, .int y, .ref ao]) ++ List.replicate (5 - (lg_sl ([.ref (ad 0), .int x, .int y, .ref ao])).length) Slot.unset).toArray = ls at hl ⊢
  have hl : lv_has ls 5 [(0, .ref (ad 0)), (1, .int x), (2, .int y), (3, .ref ao)] := hl
  refine lv_aload_n hx hb dL_enough_0 rfl (lv_at hl 3 rfl) ?_
  refine lv_iconst (v := 0) hx hb dL_enough_1 (by decide) ?_
  refine lv_aload_n hx hb dL_enough_2 rfl (lv_at hl 0 rfl) ?_
  refine lv_iload_n hx hb dL_enough_3 rfl (lv_at hl 1 rfl) ?_
  refine lv_iload_n hx hb dL_enough_4 rfl (lv_at hl 2 rfl) ?_
  refine vx_calli (vx_runV (As := [.int x, .int y]) (rest := [.int 0, .ref ao]) ⟨hx, hb, hml, hown, hts⟩ (c_X3_enough_t1 l D T ad I R hlt x y h1) (cwV 2 hts gL_enough_X3_enough rfl rfl rfl (by decide +kernel) ⟨Nat.le_of_ble_eq_true rfl, Nat.le_of_ble_eq_true rfl⟩) ⟨XR.blind, va_recv hK hP (ci := 3) (q0 := 0) rfl cw_0, XR.pre hP hK hN hXU hXZ hS rfl⟩ rfl rfl hl.1 rfl (lv_room (Nat.le_of_ble_eq_true rfl)) dL_enough_5 ⟨Nat.le_of_ble_eq_true rfl, Nat.le_of_ble_eq_true rfl⟩) hS (fun q _ h => h.elim) (fun q h => h.elim) (fun q _ h => h.elim) (fun E ce q9 u t H1 locs1 ht hal _ hE hz hk hS1 hce hcv hcl => ?_) (fun r u t H1 locs1 _ _ hf _ _ _ _ => hf.elim)
  obtain rfl : E = "java/lang/IllegalArgumentException" := hE
  refine vx_catch (name := "java/lang/IllegalArgumentException") hown [] ⟨0, 10, 13, 15⟩ [] ((vx_table (x := yL_enough) B (hts _ List.mem_cons_self)).trans rfl) (fun z hz9 => absurd hz9 List.not_mem_nil) (by decide) (by decide) (hts (.classLink RL 15 "java/lang/IllegalArgumentException") (by decide +kernel)) (va_Nw.use rfl (hXU.1 _ (List.mem_of_getElem? (i := 4) rfl))) hce hcv hcl ?_
  refine lv_astore (lv' := [(4, .ref q9), (0, .ref (ad 0)), (1, .int x), (2, .int y), (3, .ref ao)]) hx hb dL_enough_13 hl (by decide) rfl (fun ls hl => ?_)
  refine lv_iconst (v := 1) hx hb dL_enough_15 (by decide) ?_
  exact W.iret (v := 1) hx hb hr (fun t ht hW => ⟨⟨1, (), rfl, rfl, trivial⟩, hS1.F ht⟩) hS1.2.2 dL_enough_16
set_option maxHeartbeats 4000000 in
set_option maxRecDepth 100000 in
theorem h_enough_t2 (l : Launch) (D : va_G) (T : Nat → ClassId) (ad : Nat → Nat) (I : Nat → Int32) (R : Nat → Nat → Int32) (ao : Nat) (hlt : l.stackTraces = false) (x : Int32) (y : Int32) (hx9 : outI x 0 9999999 = 0) (h1 : outI y 0 1 = 1) : Met l yL_enough wsL_enough ({ frames := 7, cells := 1, slots := 6, locals := 104 }) (va_Pc [.ref (ad 0), .int x, .int y, .ref ao] (XN D T ad I R)) (RqI 1) 1 6 (fun _ => False) := by
  refine metH_ofW (cc := cL_enough) (maxL := 5) (ret := some .int) (by decide) rfl ?_
  intro p e s m args_ below meth c s₁ B hml hv
  obtain ⟨rfl, ⟨⟨hP, hK, hN⟩, hXU, hXZ⟩, hNc⟩ := hv
  have hx := B.exec
  have hb := B.bytes
  have hr := B.returns
  have hts := atoms_spec (ws := wsL_enough) B.pre
  have hown : s.vm.findClass RL = some m.cls := findClass_of_methodNamed B.named
  have hlocks := B.notSynchronized
  have hS : va_S (fun _ => False) s.heap s.heap [] := va_S.rf
  have hl := lv_entry ([.ref (ad 0), .int x, .int y, .ref ao]) (n := 5) (Nat.le_of_ble_eq_true rfl)
  rw [lg_entry_eq]
  generalize (lg_sl ([.ref (ad 0), .int x, .int y, .ref ao]) ++ List.replicate (5 - (lg_sl ([.ref (ad 0), .int x, .int y, .ref ao])).length) Slot.unset).toArray = ls at hl ⊢
  have hl : lv_has ls 5 [(0, .ref (ad 0)), (1, .int x), (2, .int y), (3, .ref ao)] := hl
  refine lv_aload_n hx hb dL_enough_0 rfl (lv_at hl 3 rfl) ?_
  refine lv_iconst (v := 0) hx hb dL_enough_1 (by decide) ?_
  refine lv_aload_n hx hb dL_enough_2 rfl (lv_at hl 0 rfl) ?_
  refine lv_iload_n hx hb dL_enough_3 rfl (lv_at hl 1 rfl) ?_
  refine lv_iload_n hx hb dL_enough_4 rfl (lv_at hl 2 rfl) ?_
  refine vx_calli (vx_runV (As := [.int x, .int y]) (rest := [.int 0, .ref ao]) ⟨hx, hb, hml, hown, hts⟩ (c_X3_enough_t2 l D T ad I R hlt x y hx9 h1) (cwV 2 hts gL_enough_X3_enough rfl rfl rfl (by decide +kernel) ⟨Nat.le_of_ble_eq_true rfl, Nat.le_of_ble_eq_true rfl⟩) ⟨XR.blind, va_recv hK hP (ci := 3) (q0 := 0) rfl cw_0, XR.pre hP hK hN hXU hXZ hS rfl⟩ rfl rfl hl.1 rfl (lv_room (Nat.le_of_ble_eq_true rfl)) dL_enough_5 ⟨Nat.le_of_ble_eq_true rfl, Nat.le_of_ble_eq_true rfl⟩) hS (fun q _ h => h.elim) (fun q h => h.elim) (fun q _ h => h.elim) (fun E ce q9 u t H1 locs1 ht hal _ hE hz hk hS1 hce hcv hcl => ?_) (fun r u t H1 locs1 _ _ hf _ _ _ _ => hf.elim)
  obtain rfl : E = "java/lang/IllegalArgumentException" := hE
  refine vx_catch (name := "java/lang/IllegalArgumentException") hown [] ⟨0, 10, 13, 15⟩ [] ((vx_table (x := yL_enough) B (hts _ List.mem_cons_self)).trans rfl) (fun z hz9 => absurd hz9 List.not_mem_nil) (by decide) (by decide) (hts (.classLink RL 15 "java/lang/IllegalArgumentException") (by decide +kernel)) (va_Nw.use rfl (hXU.1 _ (List.mem_of_getElem? (i := 4) rfl))) hce hcv hcl ?_
  refine lv_astore (lv' := [(4, .ref q9), (0, .ref (ad 0)), (1, .int x), (2, .int y), (3, .ref ao)]) hx hb dL_enough_13 hl (by decide) rfl (fun ls hl => ?_)
  refine lv_iconst (v := 1) hx hb dL_enough_15 (by decide) ?_
  exact W.iret (v := 1) hx hb hr (fun t ht hW => ⟨⟨1, (), rfl, rfl, trivial⟩, hS1.F ht⟩) hS1.2.2 dL_enough_16
set_option maxHeartbeats 4000000 in
set_option maxRecDepth 100000 in
theorem h_ifTurned_t1 (l : Launch) (D : va_G) (T : Nat → ClassId) (ad : Nat → Nat) (I : Nat → Int32) (R : Nat → Nat → Int32) (ao : Nat) (hlt : l.stackTraces = false) (x : Int32) (v : Int32) (h1 : outI v 0 7 = 1) : Met l yL_ifTurned wsL_ifTurned ({ frames := 7, cells := 1, slots := 6, locals := 104 }) (va_Pc [.ref (ad 0), .int x, .int v, .ref ao] (XN D T ad I R)) (RqI 1) 1 6 (fun _ => False) := by
  refine metH_ofW (cc := cL_ifTurned) (maxL := 5) (ret := some .int) (by decide) rfl ?_
  intro p e s m args_ below meth c s₁ B hml hv
  obtain ⟨rfl, ⟨⟨hP, hK, hN⟩, hXU, hXZ⟩, hNc⟩ := hv
  have hx := B.exec
  have hb := B.bytes
  have hr := B.returns
  have hts := atoms_spec (ws := wsL_ifTurned) B.pre
  have hown : s.vm.findClass RL = some m.cls := findClass_of_methodNamed B.named
  have hlocks := B.notSynchronized
  have hS : va_S (fun _ => False) s.heap s.heap [] := va_S.rf
  have hl := lv_entry ([.ref (ad 0), .int x, .int v, .ref ao]) (n := 5) (Nat.le_of_ble_eq_true rfl)
  rw [lg_entry_eq]
  generalize (lg_sl ([.ref (ad 0), .int x, .int v, .ref ao]) ++ List.replicate (5 - (lg_sl ([.ref (ad 0), .int x, .int v, .ref ao])).length) Slot.unset).toArray = ls at hl ⊢
  have hl : lv_has ls 5 [(0, .ref (ad 0)), (1, .int x), (2, .int v), (3, .ref ao)] := hl
  refine lv_aload_n hx hb dL_ifTurned_0 rfl (lv_at hl 3 rfl) ?_
  refine lv_iconst (v := 0) hx hb dL_ifTurned_1 (by decide) ?_
  refine lv_aload_n hx hb dL_ifTurned_2 rfl (lv_at hl 0 rfl) ?_
  refine lv_iload_n hx hb dL_ifTurned_3 rfl (lv_at hl 1 rfl) ?_
  refine lv_iload_n hx hb dL_ifTurned_4 rfl (lv_at hl 2 rfl) ?_
  refine vx_calli (vx_runV (As := [.int x, .int v]) (rest := [.int 0, .ref ao]) ⟨hx, hb, hml, hown, hts⟩ (c_X3_ifTurned_t1 l D T ad I R hlt x v h1) (cwV 2 hts gL_ifTurned_X3_ifTurned rfl rfl rfl (by decide +kernel) ⟨Nat.le_of_ble_eq_true rfl, Nat.le_of_ble_eq_true rfl⟩) ⟨XR.blind, va_recv hK hP (ci := 3) (q0 := 0) rfl cw_0, XR.pre hP hK hN hXU hXZ hS rfl⟩ rfl rfl hl.1 rfl (lv_room (Nat.le_of_ble_eq_true rfl)) dL_ifTurned_5 ⟨Nat.le_of_ble_eq_true rfl, Nat.le_of_ble_eq_true rfl⟩) hS (fun q _ h => h.elim) (fun q h => h.elim) (fun q _ h => h.elim) (fun E ce q9 u t H1 locs1 ht hal _ hE hz hk hS1 hce hcv hcl => ?_) (fun r u t H1 locs1 _ _ hf _ _ _ _ => hf.elim)
  obtain rfl : E = "java/lang/IndexOutOfBoundsException" := hE
  refine vx_catch (name := "java/lang/IndexOutOfBoundsException") hown [] ⟨0, 10, 13, 13⟩ [⟨0, 10, 17, 15⟩] ((vx_table (x := yL_ifTurned) B (hts _ List.mem_cons_self)).trans rfl) (fun z hz9 => absurd hz9 List.not_mem_nil) (by decide) (by decide) (hts (.classLink RL 13 "java/lang/IndexOutOfBoundsException") (by decide +kernel)) (va_Nw.use rfl (hXU.1 _ (List.mem_of_getElem? (i := 3) rfl))) hce hcv hcl ?_
  refine lv_astore (lv' := [(4, .ref q9), (0, .ref (ad 0)), (1, .int x), (2, .int v), (3, .ref ao)]) hx hb dL_ifTurned_13 hl (by decide) rfl (fun ls hl => ?_)
  refine lv_iconst (v := 1) hx hb dL_ifTurned_15 (by decide) ?_
  exact W.iret (v := 1) hx hb hr (fun t ht hW => ⟨⟨1, (), rfl, rfl, trivial⟩, hS1.F ht⟩) hS1.2.2 dL_ifTurned_16
set_option maxHeartbeats 4000000 in
set_option maxRecDepth 100000 in
theorem h_ifTurned_t2 (l : Launch) (D : va_G) (T : Nat → ClassId) (ad : Nat → Nat) (I : Nat → Int32) (R : Nat → Nat → Int32) (ao : Nat) (hlt : l.stackTraces = false) (x : Int32) (k : Nat) (hk : k < 8) (h1 : outI x 0 7 = 1) : Met l yL_ifTurned wsL_ifTurned ({ frames := 7, cells := 1, slots := 6, locals := 104 }) (va_Pc [.ref (ad 0), .int x, .int (nI k), .ref ao] (XN D T ad I R)) (RqI 2) 1 6 (fun _ => False) := by
  refine metH_ofW (cc := cL_ifTurned) (maxL := 5) (ret := some .int) (by decide) rfl ?_
  intro p e s m args_ below meth c s₁ B hml hv
  obtain ⟨rfl, ⟨⟨hP, hK, hN⟩, hXU, hXZ⟩, hNc⟩ := hv
  have hx := B.exec
  have hb := B.bytes
  have hr := B.returns
  have hts := atoms_spec (ws := wsL_ifTurned) B.pre
  have hown : s.vm.findClass RL = some m.cls := findClass_of_methodNamed B.named
  have hlocks := B.notSynchronized
  have hS : va_S (fun _ => False) s.heap s.heap [] := va_S.rf
  have hl := lv_entry ([.ref (ad 0), .int x, .int (nI k), .ref ao]) (n := 5) (Nat.le_of_ble_eq_true rfl)
  rw [lg_entry_eq]
  generalize (lg_sl ([.ref (ad 0), .int x, .int (nI k), .ref ao]) ++ List.replicate (5 - (lg_sl ([.ref (ad 0), .int x, .int (nI k), .ref ao])).length) Slot.unset).toArray = ls at hl ⊢
  have hl : lv_has ls 5 [(0, .ref (ad 0)), (1, .int x), (2, .int (nI k)), (3, .ref ao)] := hl
  refine lv_aload_n hx hb dL_ifTurned_0 rfl (lv_at hl 3 rfl) ?_
  refine lv_iconst (v := 0) hx hb dL_ifTurned_1 (by decide) ?_
  refine lv_aload_n hx hb dL_ifTurned_2 rfl (lv_at hl 0 rfl) ?_
  refine lv_iload_n hx hb dL_ifTurned_3 rfl (lv_at hl 1 rfl) ?_
  refine lv_iload_n hx hb dL_ifTurned_4 rfl (lv_at hl 2 rfl) ?_
  refine vx_calli (vx_runV (As := [.int x, .int (nI k)]) (rest := [.int 0, .ref ao]) ⟨hx, hb, hml, hown, hts⟩ (c_X3_ifTurned_t2 l D T ad I R hlt x k hk h1) (cwV 2 hts gL_ifTurned_X3_ifTurned rfl rfl rfl (by decide +kernel) ⟨Nat.le_of_ble_eq_true rfl, Nat.le_of_ble_eq_true rfl⟩) ⟨XR.blind, va_recv hK hP (ci := 3) (q0 := 0) rfl cw_0, XR.pre hP hK hN hXU hXZ hS rfl⟩ rfl rfl hl.1 rfl (lv_room (Nat.le_of_ble_eq_true rfl)) dL_ifTurned_5 ⟨Nat.le_of_ble_eq_true rfl, Nat.le_of_ble_eq_true rfl⟩) hS (fun q _ h => h.elim) (fun q h => h.elim) (fun q _ h => h.elim) (fun E ce q9 u t H1 locs1 ht hal _ hE hz hk hS1 hce hcv hcl => ?_) (fun r u t H1 locs1 _ _ hf _ _ _ _ => hf.elim)
  obtain rfl : E = "java/lang/IllegalArgumentException" := hE
  refine vx_catch (name := "java/lang/IllegalArgumentException") hown [⟨0, 10, 13, 13⟩] ⟨0, 10, 17, 15⟩ [] ((vx_table (x := yL_ifTurned) B (hts _ List.mem_cons_self)).trans rfl) (fun z hz9 => by rcases List.mem_singleton.mp hz9 with rfl; exact Or.inr ⟨by decide, "java/lang/IndexOutOfBoundsException", hts (.classLink RL 13 "java/lang/IndexOutOfBoundsException") (by decide +kernel), hNc.1⟩) (by decide) (by decide) (hts (.classLink RL 15 "java/lang/IllegalArgumentException") (by decide +kernel)) (va_Nw.use rfl (hXU.1 _ (List.mem_of_getElem? (i := 4) rfl))) hce hcv hcl ?_
  refine lv_astore (lv' := [(4, .ref q9), (0, .ref (ad 0)), (1, .int x), (2, .int (nI k)), (3, .ref ao)]) hx hb dL_ifTurned_17 hl (by decide) rfl (fun ls hl => ?_)
  refine lv_iconst (v := 2) hx hb dL_ifTurned_19 (by decide) ?_
  exact W.iret (v := 2) hx hb hr (fun t ht hW => ⟨⟨2, (), rfl, rfl, trivial⟩, hS1.F ht⟩) hS1.2.2 dL_ifTurned_20

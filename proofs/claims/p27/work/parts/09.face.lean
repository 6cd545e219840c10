section
variable {D : va_G} {T : Nat → ClassId} {ad : Nat → Nat} {I : Nat → Int32} {R : Nat → Nat → Int32} {k : Nat} {f g : Nat → Int32} {H : Heap}
theorem fin_R0 {n : Nat} (hP : va_P D vwCl (cw T ad I (updR R 0 f)) H) (hf : ∀ j, j < 8 → f j = g j) : va_P D vwCl (cw T ad I (updR R 0 g)) H := upd19 (cx_re hP cw_2 hf cw_R0)
theorem fin_R1 {n : Nat} (hP : va_P D vwCl (cw T ad I (updR R 1 f)) H) (hf : ∀ j, j < 8 → f j = g j) : va_P D vwCl (cw T ad I (updR R 1 g)) H := upd19 (cx_re hP cw_3 hf cw_R1)
end
set_option maxHeartbeats 4000000 in
set_option maxRecDepth 100000 in
theorem c_X3_set (l : Launch) (D : va_G) (T : Nat → ClassId) (ad : Nat → Nat) (I : Nat → Int32) (R : Nat → Nat → Int32) (sz : Nat) (nx : Nat) (ct : Nat) (k : Nat) (x : Int32) (hAD : AD 34 ad) (hnx : nx < 6) (hct : ct ≤ 6) (hI1 : I 1 = nI nx) (hI2 : I 2 = nI ct) (hk : k < 8) (hx9 : outI x (-99) 99 = 0) : Met l yX3_set wsX3_set ({ frames := 3, cells := 0, slots := 0, locals := 60 }) (va_Pc [.ref (ad 0), .int (nI k), .int x] (CB D T ad I R sz)) (va_Qi (fun r (u9 : Unit) => r = (R 0 k) ∧ True) (fun (u9 : Unit) t => va_P D vwCl (cw T ad (pushI I nx ct) (updR (pushR R nx) 0 (upd (R 0) k x))) t.heap) (cA 34 ad sz)) 0 0 (cA 34 ad sz) := by
  refine Met.ofW (cc := cX3_set) (maxL := 4) (ret := (some .int)) (by decide) rfl ?_
  intro p e s m args_ below meth c s₁ B hml hv
  obtain ⟨rfl, hsz, hP, hK, hN⟩ := hv
  have hx := B.exec
  have hb := B.bytes
  have hr := B.returns
  have hts := atoms_spec (ws := wsX3_set) B.pre
  have hown : s.vm.findClass RX3 = some m.cls := findClass_of_methodNamed B.named
  have hlocks := B.notSynchronized
  have hinX0 : ∀ w ∈ u_ws RX0 TX0 4, w ∈ wsX3_set := by decide +kernel
  have hinX3 : ∀ w ∈ u_ws RX3 TX3 6, w ∈ wsX3_set := by decide +kernel
  subst hsz
  have hS : va_S (cA 34 ad s.heap.size) s.heap s.heap [] := va_S.rf
  have hD : ∀ I R, va_D (cA 34 ad s.heap.size) (cw T ad I R) := fun I R => cw_D hAD (fun k hk => cA_in hk)
  have hl := lv_entry ([.ref (ad 0), .int (nI k), .int x]) (n := 4) (Nat.le_of_ble_eq_true rfl)
  rw [lg_entry_eq]
  generalize (lg_sl ([.ref (ad 0), .int (nI k), .int x]) ++ List.replicate (4 - (lg_sl ([.ref (ad 0), .int (nI k), .int x])).length) Slot.unset).toArray = ls at hl ⊢
  have hl : lv_has ls 4 [(0, .ref (ad 0)), (1, .int (nI k)), (2, .int x)] := hl
  refine lv_iload_n hx hb dX3_set_0 rfl (lv_at hl 1 rfl) ?_
  refine cx_ri (va_runS (As := [.int (nI k)]) (rest := []) ⟨hx, hb, hml, hown, hts⟩ (c_X3_isNoPlace l  (nI k)) (va_cwS 1 hts gX3_set_X3_isNoPlace rfl rfl rfl (by decide +kernel) ⟨Nat.le_of_ble_eq_true rfl, Nat.le_of_ble_eq_true rfl⟩) ⟨pc_blind, (fun U hU hW => ⟨rfl, trivial⟩)⟩ rfl rfl hl.1 rfl (lv_room (Nat.le_of_ble_eq_true rfl)) dX3_set_1 ⟨Nat.le_of_ble_eq_true rfl, Nat.le_of_ble_eq_true rfl⟩) hS hP (fun H locs hP hS => ?_)
  refine cx_top (show (outI (nI k) 0 7) = 0 from out_8 hk) ?_
  refine lv_if_eq (tgt := 17) hx hb dX3_set_4 (by decide) (fun c_4 => ?_) (fun c_4 => absurd c_4 (by decide))
  refine lv_iload_n hx hb dX3_set_17 rfl (lv_at hl 2 rfl) ?_
  refine lv_bipush (v := (-99)) hx hb dX3_set_18 (by decide) ?_
  refine lv_bipush (v := 99) hx hb dX3_set_20 (by decide) ?_
  refine cx_ri (va_runS (As := [.int x, .int (-99), .int 99]) (rest := []) ⟨hx, hb, hml, hown, hts⟩ (c_X3_isOutside l  x (-99) 99) (va_cwS 3 hts gX3_set_X3_isOutside rfl rfl rfl (by decide +kernel) ⟨Nat.le_of_ble_eq_true rfl, Nat.le_of_ble_eq_true rfl⟩) ⟨pc_blind, (fun U hU hW => ⟨rfl, trivial⟩)⟩ rfl rfl hl.1 rfl (lv_room (Nat.le_of_ble_eq_true rfl)) dX3_set_22 ⟨Nat.le_of_ble_eq_true rfl, Nat.le_of_ble_eq_true rfl⟩) hS hP (fun H locs hP hS => ?_)
  refine cx_top (show (outI x (-99) 99) = 0 from hx9) ?_
  refine lv_if_eq (tgt := 38) hx hb dX3_set_25 (by decide) (fun c_25 => ?_) (fun c_25 => absurd c_25 (by decide))
  refine lv_aload_n hx hb dX3_set_38 rfl (lv_at hl 0 rfl) ?_
  refine va_get (D := D) (ci := 3) (v := .ref (ad 5)) (C := RX3) (T := TX3) (N := 6) hx hb hts hinX3 hown hK hP 0 cw_0 rfl 3 (by decide) (hts (.fieldLink RX3 27 "SquareGears" "saved" "LSquareGears$SavedGears;") (by decide +kernel)) (fun _ h9 => h9) rfl dX3_set_39 ?_
  refine lv_aload_n hx hb dX3_set_42 rfl (lv_at hl 0 rfl) ?_
  refine va_get (D := D) (ci := 3) (v := .ref (ad 1)) (C := RX3) (T := TX3) (N := 6) hx hb hts hinX3 hown hK hP 0 cw_0 rfl 0 (by decide) (hts (.fieldLink RX3 12 "SquareGears" "now" "LSquareGears$Gears;") (by decide +kernel)) (fun _ h9 => h9) rfl dX3_set_43 ?_
  refine cx_wv (va_runVN (As := [.ref (ad 1)]) (rest := []) ⟨hx, hb, hml, hown, hts⟩ (c_X1_push l D T ad I R _ nx ct (hAD) (hnx) (hct) (hI1) (hI2)) ⟨va_cnB 1 hts gX3_set_X1_push_n62 rfl rfl rfl (nwm_X3_62 hN) (hts (.initialized RX1) (by decide +kernel)) (by decide +kernel) ⟨Nat.le_of_ble_eq_true rfl, Nat.le_of_ble_eq_true rfl⟩, (hts (.instanceMethod yX1_push) (by decide +kernel)), (hts (.selects RX1 yX1_push yX1_push) (by decide +kernel))⟩ ⟨CB.blind, va_recv hK hP (ci := 1) (q0 := 5) rfl cw_5, (CB.pre hP hK hN rfl)⟩ rfl rfl hl.1 rfl (lv_room (Nat.le_of_ble_eq_true rfl)) dX3_set_46 ⟨Nat.le_of_ble_eq_true rfl, Nat.le_of_ble_eq_true rfl⟩) hS (cA_le hS.1) (cA_le hS.1) (fun u_46 H locs hu_46 hP hkk hS => ?_)
  refine lv_aload_n hx hb dX3_set_49 rfl (lv_at hl 0 rfl) ?_
  refine va_get (D := D) (ci := 3) (v := .ref (ad 1)) (C := RX3) (T := TX3) (N := 6) hx hb hts hinX3 hown hK hP 0 cw_0 rfl 0 (by decide) (hts (.fieldLink RX3 12 "SquareGears" "now" "LSquareGears$Gears;") (by decide +kernel)) (fun _ h9 => h9) rfl dX3_set_50 ?_
  refine va_getN (D := D) (ci := 0) (v := .ref (ad 2)) (C := RX0) (T := TX0) (N := 4) hx hb hts hinX0 hown hK hP 1 cw_1 rfl 0 (by decide) (nw_use rfl (nwf_X3_66 hN)) (fun _ h9 => h9) rfl dX3_set_53 ?_
  refine lv_iload_n hx hb dX3_set_56 rfl (lv_at hl 1 rfl) ?_
  refine cx_iald (k := k) hx hb hK hP 2 1 cw_2 rfl (by omega) (by decide) dX3_set_57 ?_
  refine cx_top (show (((pushR R nx) 0) k) = (R 0 k) from by rw [pushR_k hnx (by omega)]) ?_
  refine lv_istore_n (lv' := [(3, .int (R 0 k)), (0, .ref (ad 0)), (1, .int (nI k)), (2, .int x)]) hx hb dX3_set_58 rfl hl (by decide) rfl (fun ls hl => ?_)
  refine lv_aload_n hx hb dX3_set_59 rfl (lv_at hl 1 rfl) ?_
  refine va_get (D := D) (ci := 3) (v := .ref (ad 1)) (C := RX3) (T := TX3) (N := 6) hx hb hts hinX3 hown hK hP 0 cw_0 rfl 0 (by decide) (hts (.fieldLink RX3 12 "SquareGears" "now" "LSquareGears$Gears;") (by decide +kernel)) (fun _ h9 => h9) rfl dX3_set_60 ?_
  refine va_getN (D := D) (ci := 0) (v := .ref (ad 2)) (C := RX0) (T := TX0) (N := 4) hx hb hts hinX0 hown hK hP 1 cw_1 rfl 0 (by decide) (nw_use rfl (nwf_X3_66 hN)) (fun _ h9 => h9) rfl dX3_set_63 ?_
  refine lv_iload_n hx hb dX3_set_66 rfl (lv_at hl 2 rfl) ?_
  refine lv_iload_n hx hb dX3_set_67 rfl (lv_at hl 3 rfl) ?_
  refine cx_iast (k := k) hx hb hK hP (hD _ _) hS 2 1 cw_2 rfl (by omega) (by decide) cw_R0 dX3_set_68 (fun H locs hP hS => ?_)
  refine lv_iload_n hx hb dX3_set_69 rfl (lv_at hl 0 rfl) ?_
  exact W.iret (v := (R 0 k)) hx hb hr (fun t ht hW => ⟨⟨(R 0 k), (), rfl, ⟨rfl, trivial⟩, by show va_P _ _ _ _; rw [ht]; exact (by rw [pushR_k (k := 0) hnx (by omega)] at hP; exact hP)⟩, hS.F ht⟩) hS.2.2 dX3_set_70
set_option maxHeartbeats 4000000 in
set_option maxRecDepth 100000 in
theorem c_X3_point (l : Launch) (D : va_G) (T : Nat → ClassId) (ad : Nat → Nat) (I : Nat → Int32) (R : Nat → Nat → Int32) (sz : Nat) (nx : Nat) (ct : Nat) (k : Nat) (x : Int32) (hAD : AD 34 ad) (hnx : nx < 6) (hct : ct ≤ 6) (hI1 : I 1 = nI nx) (hI2 : I 2 = nI ct) (hk : k < 8) (hx9 : outI x (-9999) 9999 = 0) : Met l yX3_point wsX3_point ({ frames := 3, cells := 0, slots := 0, locals := 60 }) (va_Pc [.ref (ad 0), .int (nI k), .int x] (CB D T ad I R sz)) (va_Qi (fun r (u9 : Unit) => r = (R 1 k) ∧ True) (fun (u9 : Unit) t => va_P D vwCl (cw T ad (pushI I nx ct) (updR (pushR R nx) 1 (upd (R 1) k x))) t.heap) (cA 34 ad sz)) 0 0 (cA 34 ad sz) := by
  refine Met.ofW (cc := cX3_point) (maxL := 4) (ret := (some .int)) (by decide) rfl ?_
  intro p e s m args_ below meth c s₁ B hml hv
  obtain ⟨rfl, hsz, hP, hK, hN⟩ := hv
  have hx := B.exec
  have hb := B.bytes
  have hr := B.returns
  have hts := atoms_spec (ws := wsX3_point) B.pre
  have hown : s.vm.findClass RX3 = some m.cls := findClass_of_methodNamed B.named
  have hlocks := B.notSynchronized
  have hinX0 : ∀ w ∈ u_ws RX0 TX0 4, w ∈ wsX3_point := by decide +kernel
  have hinX3 : ∀ w ∈ u_ws RX3 TX3 6, w ∈ wsX3_point := by decide +kernel
  subst hsz
  have hS : va_S (cA 34 ad s.heap.size) s.heap s.heap [] := va_S.rf
  have hD : ∀ I R, va_D (cA 34 ad s.heap.size) (cw T ad I R) := fun I R => cw_D hAD (fun k hk => cA_in hk)
  have hl := lv_entry ([.ref (ad 0), .int (nI k), .int x]) (n := 4) (Nat.le_of_ble_eq_true rfl)
  rw [lg_entry_eq]
  generalize (lg_sl ([.ref (ad 0), .int (nI k), .int x]) ++ List.replicate (4 - (lg_sl ([.ref (ad 0), .int (nI k), .int x])).length) Slot.unset).toArray = ls at hl ⊢
  have hl : lv_has ls 4 [(0, .ref (ad 0)), (1, .int (nI k)), (2, .int x)] := hl
  refine lv_iload_n hx hb dX3_point_0 rfl (lv_at hl 1 rfl) ?_
  refine cx_ri (va_runS (As := [.int (nI k)]) (rest := []) ⟨hx, hb, hml, hown, hts⟩ (c_X3_isNoPlace l  (nI k)) (va_cwS 1 hts gX3_point_X3_isNoPlace rfl rfl rfl (by decide +kernel) ⟨Nat.le_of_ble_eq_true rfl, Nat.le_of_ble_eq_true rfl⟩) ⟨pc_blind, (fun U hU hW => ⟨rfl, trivial⟩)⟩ rfl rfl hl.1 rfl (lv_room (Nat.le_of_ble_eq_true rfl)) dX3_point_1 ⟨Nat.le_of_ble_eq_true rfl, Nat.le_of_ble_eq_true rfl⟩) hS hP (fun H locs hP hS => ?_)
  refine cx_top (show (outI (nI k) 0 7) = 0 from out_8 hk) ?_
  refine lv_if_eq (tgt := 17) hx hb dX3_point_4 (by decide) (fun c_4 => ?_) (fun c_4 => absurd c_4 (by decide))
  refine lv_iload_n hx hb dX3_point_17 rfl (lv_at hl 2 rfl) ?_
  refine lv_sipush (v := (-9999)) hx hb dX3_point_18 (by decide) ?_
  refine lv_sipush (v := 9999) hx hb dX3_point_21 (by decide) ?_
  refine cx_ri (va_runS (As := [.int x, .int (-9999), .int 9999]) (rest := []) ⟨hx, hb, hml, hown, hts⟩ (c_X3_isOutside l  x (-9999) 9999) (va_cwS 3 hts gX3_point_X3_isOutside rfl rfl rfl (by decide +kernel) ⟨Nat.le_of_ble_eq_true rfl, Nat.le_of_ble_eq_true rfl⟩) ⟨pc_blind, (fun U hU hW => ⟨rfl, trivial⟩)⟩ rfl rfl hl.1 rfl (lv_room (Nat.le_of_ble_eq_true rfl)) dX3_point_24 ⟨Nat.le_of_ble_eq_true rfl, Nat.le_of_ble_eq_true rfl⟩) hS hP (fun H locs hP hS => ?_)
  refine cx_top (show (outI x (-9999) 9999) = 0 from hx9) ?_
  refine lv_if_eq (tgt := 40) hx hb dX3_point_27 (by decide) (fun c_27 => ?_) (fun c_27 => absurd c_27 (by decide))
  refine lv_aload_n hx hb dX3_point_40 rfl (lv_at hl 0 rfl) ?_
  refine va_get (D := D) (ci := 3) (v := .ref (ad 5)) (C := RX3) (T := TX3) (N := 6) hx hb hts hinX3 hown hK hP 0 cw_0 rfl 3 (by decide) (hts (.fieldLink RX3 27 "SquareGears" "saved" "LSquareGears$SavedGears;") (by decide +kernel)) (fun _ h9 => h9) rfl dX3_point_41 ?_
  refine lv_aload_n hx hb dX3_point_44 rfl (lv_at hl 0 rfl) ?_
  refine va_get (D := D) (ci := 3) (v := .ref (ad 1)) (C := RX3) (T := TX3) (N := 6) hx hb hts hinX3 hown hK hP 0 cw_0 rfl 0 (by decide) (hts (.fieldLink RX3 12 "SquareGears" "now" "LSquareGears$Gears;") (by decide +kernel)) (fun _ h9 => h9) rfl dX3_point_45 ?_
  refine cx_wv (va_runVN (As := [.ref (ad 1)]) (rest := []) ⟨hx, hb, hml, hown, hts⟩ (c_X1_push l D T ad I R _ nx ct (hAD) (hnx) (hct) (hI1) (hI2)) ⟨va_cnB 1 hts gX3_point_X1_push_n62 rfl rfl rfl (nwm_X3_62 hN) (hts (.initialized RX1) (by decide +kernel)) (by decide +kernel) ⟨Nat.le_of_ble_eq_true rfl, Nat.le_of_ble_eq_true rfl⟩, (hts (.instanceMethod yX1_push) (by decide +kernel)), (hts (.selects RX1 yX1_push yX1_push) (by decide +kernel))⟩ ⟨CB.blind, va_recv hK hP (ci := 1) (q0 := 5) rfl cw_5, (CB.pre hP hK hN rfl)⟩ rfl rfl hl.1 rfl (lv_room (Nat.le_of_ble_eq_true rfl)) dX3_point_48 ⟨Nat.le_of_ble_eq_true rfl, Nat.le_of_ble_eq_true rfl⟩) hS (cA_le hS.1) (cA_le hS.1) (fun u_48 H locs hu_48 hP hkk hS => ?_)
  refine lv_aload_n hx hb dX3_point_51 rfl (lv_at hl 0 rfl) ?_
  refine va_get (D := D) (ci := 3) (v := .ref (ad 1)) (C := RX3) (T := TX3) (N := 6) hx hb hts hinX3 hown hK hP 0 cw_0 rfl 0 (by decide) (hts (.fieldLink RX3 12 "SquareGears" "now" "LSquareGears$Gears;") (by decide +kernel)) (fun _ h9 => h9) rfl dX3_point_52 ?_
  refine va_getN (D := D) (ci := 0) (v := .ref (ad 3)) (C := RX0) (T := TX0) (N := 4) hx hb hts hinX0 hown hK hP 1 cw_1 rfl 1 (by decide) (nw_use rfl (nwf_X3_93 hN)) (fun _ h9 => h9) rfl dX3_point_55 ?_
  refine lv_iload_n hx hb dX3_point_58 rfl (lv_at hl 1 rfl) ?_
  refine cx_iald (k := k) hx hb hK hP 3 1 cw_3 rfl (by omega) (by decide) dX3_point_59 ?_
  refine cx_top (show (((pushR R nx) 1) k) = (R 1 k) from by rw [pushR_k hnx (by omega)]) ?_
  refine lv_istore_n (lv' := [(3, .int (R 1 k)), (0, .ref (ad 0)), (1, .int (nI k)), (2, .int x)]) hx hb dX3_point_60 rfl hl (by decide) rfl (fun ls hl => ?_)
  refine lv_aload_n hx hb dX3_point_61 rfl (lv_at hl 1 rfl) ?_
  refine va_get (D := D) (ci := 3) (v := .ref (ad 1)) (C := RX3) (T := TX3) (N := 6) hx hb hts hinX3 hown hK hP 0 cw_0 rfl 0 (by decide) (hts (.fieldLink RX3 12 "SquareGears" "now" "LSquareGears$Gears;") (by decide +kernel)) (fun _ h9 => h9) rfl dX3_point_62 ?_
  refine va_getN (D := D) (ci := 0) (v := .ref (ad 3)) (C := RX0) (T := TX0) (N := 4) hx hb hts hinX0 hown hK hP 1 cw_1 rfl 1 (by decide) (nw_use rfl (nwf_X3_93 hN)) (fun _ h9 => h9) rfl dX3_point_65 ?_
  refine lv_iload_n hx hb dX3_point_68 rfl (lv_at hl 2 rfl) ?_
  refine lv_iload_n hx hb dX3_point_69 rfl (lv_at hl 3 rfl) ?_
  refine cx_iast (k := k) hx hb hK hP (hD _ _) hS 3 1 cw_3 rfl (by omega) (by decide) cw_R1 dX3_point_70 (fun H locs hP hS => ?_)
  refine lv_iload_n hx hb dX3_point_71 rfl (lv_at hl 0 rfl) ?_
  exact W.iret (v := (R 1 k)) hx hb hr (fun t ht hW => ⟨⟨(R 1 k), (), rfl, ⟨rfl, trivial⟩, by show va_P _ _ _ _; rw [ht]; exact (by rw [pushR_k (k := 1) hnx (by omega)] at hP; exact hP)⟩, hS.F ht⟩) hS.2.2 dX3_point_72
set_option maxHeartbeats 4000000 in
set_option maxRecDepth 100000 in
theorem c_X3_lose (l : Launch) (D : va_G) (T : Nat → ClassId) (ad : Nat → Nat) (I : Nat → Int32) (R : Nat → Nat → Int32) (sz : Nat) (nx : Nat) (ct : Nat) (lm : Nat) (k : Nat) (hAD : AD 34 ad) (hnx : nx < 6) (hct : ct ≤ 6) (hI1 : I 1 = nI nx) (hI2 : I 2 = nI ct) (hm : lm < 256) (hI : I 4 = nI lm) (hk : k < 8) : Met l yX3_lose wsX3_lose ({ frames := 3, cells := 0, slots := 0, locals := 60 }) (va_Pc [.ref (ad 0), .int (nI k)] (CB D T ad I R sz)) (va_Qi (fun r (u9 : Unit) => r = (lbI (lm ^^^ 2 ^ k) k) ∧ True) (fun (u9 : Unit) t => va_P D vwCl (cw T ad (upd (pushI I nx ct) 4 (nI (lm ^^^ 2 ^ k))) (pushR R nx)) t.heap) (cA 34 ad sz)) 0 0 (cA 34 ad sz) := by
  refine Met.ofW (cc := cX3_lose) (maxL := 2) (ret := (some .int)) (by decide) rfl ?_
  intro p e s m args_ below meth c s₁ B hml hv
  obtain ⟨rfl, hsz, hP, hK, hN⟩ := hv
  have hx := B.exec
  have hb := B.bytes
  have hr := B.returns
  have hts := atoms_spec (ws := wsX3_lose) B.pre
  have hown : s.vm.findClass RX3 = some m.cls := findClass_of_methodNamed B.named
  have hlocks := B.notSynchronized
  have hinX0 : ∀ w ∈ u_ws RX0 TX0 4, w ∈ wsX3_lose := by decide +kernel
  have hinX3 : ∀ w ∈ u_ws RX3 TX3 6, w ∈ wsX3_lose := by decide +kernel
  subst hsz
  have hS : va_S (cA 34 ad s.heap.size) s.heap s.heap [] := va_S.rf
  have hD : ∀ I R, va_D (cA 34 ad s.heap.size) (cw T ad I R) := fun I R => cw_D hAD (fun k hk => cA_in hk)
  have hl := lv_entry ([.ref (ad 0), .int (nI k)]) (n := 2) (Nat.le_of_ble_eq_true rfl)
  rw [lg_entry_eq]
  generalize (lg_sl ([.ref (ad 0), .int (nI k)]) ++ List.replicate (2 - (lg_sl ([.ref (ad 0), .int (nI k)])).length) Slot.unset).toArray = ls at hl ⊢
  have hl : lv_has ls 2 [(0, .ref (ad 0)), (1, .int (nI k))] := hl
  refine lv_iload_n hx hb dX3_lose_0 rfl (lv_at hl 1 rfl) ?_
  refine cx_ri (va_runS (As := [.int (nI k)]) (rest := []) ⟨hx, hb, hml, hown, hts⟩ (c_X3_isNoPlace l  (nI k)) (va_cwS 1 hts gX3_lose_X3_isNoPlace rfl rfl rfl (by decide +kernel) ⟨Nat.le_of_ble_eq_true rfl, Nat.le_of_ble_eq_true rfl⟩) ⟨pc_blind, (fun U hU hW => ⟨rfl, trivial⟩)⟩ rfl rfl hl.1 rfl (lv_room (Nat.le_of_ble_eq_true rfl)) dX3_lose_1 ⟨Nat.le_of_ble_eq_true rfl, Nat.le_of_ble_eq_true rfl⟩) hS hP (fun H locs hP hS => ?_)
  refine cx_top (show (outI (nI k) 0 7) = 0 from out_8 hk) ?_
  refine lv_if_eq (tgt := 17) hx hb dX3_lose_4 (by decide) (fun c_4 => ?_) (fun c_4 => absurd c_4 (by decide))
  refine lv_aload_n hx hb dX3_lose_17 rfl (lv_at hl 0 rfl) ?_
  refine va_get (D := D) (ci := 3) (v := .ref (ad 5)) (C := RX3) (T := TX3) (N := 6) hx hb hts hinX3 hown hK hP 0 cw_0 rfl 3 (by decide) (hts (.fieldLink RX3 27 "SquareGears" "saved" "LSquareGears$SavedGears;") (by decide +kernel)) (fun _ h9 => h9) rfl dX3_lose_18 ?_
  refine lv_aload_n hx hb dX3_lose_21 rfl (lv_at hl 0 rfl) ?_
  refine va_get (D := D) (ci := 3) (v := .ref (ad 1)) (C := RX3) (T := TX3) (N := 6) hx hb hts hinX3 hown hK hP 0 cw_0 rfl 0 (by decide) (hts (.fieldLink RX3 12 "SquareGears" "now" "LSquareGears$Gears;") (by decide +kernel)) (fun _ h9 => h9) rfl dX3_lose_22 ?_
  refine cx_wv (va_runVN (As := [.ref (ad 1)]) (rest := []) ⟨hx, hb, hml, hown, hts⟩ (c_X1_push l D T ad I R _ nx ct (hAD) (hnx) (hct) (hI1) (hI2)) ⟨va_cnB 1 hts gX3_lose_X1_push_n62 rfl rfl rfl (nwm_X3_62 hN) (hts (.initialized RX1) (by decide +kernel)) (by decide +kernel) ⟨Nat.le_of_ble_eq_true rfl, Nat.le_of_ble_eq_true rfl⟩, (hts (.instanceMethod yX1_push) (by decide +kernel)), (hts (.selects RX1 yX1_push yX1_push) (by decide +kernel))⟩ ⟨CB.blind, va_recv hK hP (ci := 1) (q0 := 5) rfl cw_5, (CB.pre hP hK hN rfl)⟩ rfl rfl hl.1 rfl (lv_room (Nat.le_of_ble_eq_true rfl)) dX3_lose_25 ⟨Nat.le_of_ble_eq_true rfl, Nat.le_of_ble_eq_true rfl⟩) hS (cA_le hS.1) (cA_le hS.1) (fun u_25 H locs hu_25 hP hkk hS => ?_)
  refine lv_aload_n hx hb dX3_lose_28 rfl (lv_at hl 0 rfl) ?_
  refine va_get (D := D) (ci := 3) (v := .ref (ad 1)) (C := RX3) (T := TX3) (N := 6) hx hb hts hinX3 hown hK hP 0 cw_0 rfl 0 (by decide) (hts (.fieldLink RX3 12 "SquareGears" "now" "LSquareGears$Gears;") (by decide +kernel)) (fun _ h9 => h9) rfl dX3_lose_29 ?_
  refine lv_dup hx hb dX3_lose_32 rfl ?_
  refine va_getN (D := D) (ci := 0) (v := .int ((pushI I nx ct) 4)) (C := RX0) (T := TX0) (N := 4) hx hb hts hinX0 hown hK hP 1 cw_1 rfl 2 (by decide) (nw_use rfl (nwf_X3_69 hN)) (fun _ h9 => h9) rfl dX3_lose_33 ?_
  refine cx_top (show ((pushI I nx ct) 4) = (nI lm) from pushI_4.trans hI) ?_
  refine lv_iconst (v := 1) hx hb dX3_lose_36 (by decide) ?_
  refine lv_iload_n hx hb dX3_lose_37 rfl (lv_at hl 1 rfl) ?_
  refine lv_ishl hx hb dX3_lose_38 ?_
  refine lv_ixor hx hb dX3_lose_39 ?_
  refine cx_top (show ((nI lm) ^^^ (1 <<< ((nI k) &&& 31))) = (nI (lm ^^^ 2 ^ k)) from xor_bit hm hk) ?_
  refine cx_putN (D := D) (ci := 0) (v := (nI (lm ^^^ 2 ^ k))) (ty := .int) (C := RX0) (T := TX0) (N := 4) hx hb hts hinX0 tyX0 tyX0_ok nmX0 hown hK hP (hD _ _) hS 1 cw_1 rfl 2 (by decide) (nw_use rfl (nwf_X3_69 hN)) (fun _ h9 => h9) rfl (by decide +kernel) rfl rfl (Nat.le_of_ble_eq_true rfl) cw_I4 dX3_lose_40 (fun H locs hP hS => ?_)
  refine lv_aload_n hx hb dX3_lose_43 rfl (lv_at hl 0 rfl) ?_
  refine va_get (D := D) (ci := 3) (v := .ref (ad 1)) (C := RX3) (T := TX3) (N := 6) hx hb hts hinX3 hown hK hP 0 cw_0 rfl 0 (by decide) (hts (.fieldLink RX3 12 "SquareGears" "now" "LSquareGears$Gears;") (by decide +kernel)) (fun _ h9 => h9) rfl dX3_lose_44 ?_
  refine lv_iload_n hx hb dX3_lose_47 rfl (lv_at hl 1 rfl) ?_
  refine cx_ri (va_runVN (As := [.int (nI k)]) (rest := []) ⟨hx, hb, hml, hown, hts⟩ (c_X0_isLost l D T ad (upd (pushI I nx ct) 4 (nI (lm ^^^ 2 ^ k))) (pushR R nx) (lm ^^^ 2 ^ k) k (xor_lt2 hm hk) (rfl) (hk)) ⟨va_cnB 1 hts gX3_lose_X0_isLost_n72 rfl rfl rfl (nwm_X3_72 hN) (hts (.initialized RX0) (by decide +kernel)) (by decide +kernel) ⟨Nat.le_of_ble_eq_true rfl, Nat.le_of_ble_eq_true rfl⟩, (hts (.instanceMethod yX0_isLost) (by decide +kernel)), (hts (.selects RX0 yX0_isLost yX0_isLost) (by decide +kernel))⟩ ⟨CR.blind, va_recv hK hP (ci := 0) (q0 := 1) rfl cw_1, (CR.pre hP hK hN rfl)⟩ rfl rfl hl.1 rfl (lv_room (Nat.le_of_ble_eq_true rfl)) dX3_lose_48 ⟨Nat.le_of_ble_eq_true rfl, Nat.le_of_ble_eq_true rfl⟩) hS hP (fun H locs hP hS => ?_)
  refine lv_if_eq (tgt := 58) hx hb dX3_lose_51 (by decide) (fun c_51 => ?_) (fun c_51 => ?_)
  · refine lv_iconst (v := 0) hx hb dX3_lose_58 (by decide) ?_
    exact W.iret (v := 0) hx hb hr (fun t ht hW => ⟨⟨0, (), rfl, ⟨by first | exact (lb_ne0 (by assumption)).symm | exact Eq.symm (by assumption), trivial⟩, by show va_P _ _ _ _; rw [ht]; exact hP⟩, hS.F ht⟩) hS.2.2 dX3_lose_59
  · refine lv_iconst (v := 1) hx hb dX3_lose_54 (by decide) ?_
    refine lv_goto (tgt := 59) hx hb dX3_lose_55 (by decide) ?_
    exact W.iret (v := 1) hx hb hr (fun t ht hW => ⟨⟨1, (), rfl, ⟨by first | exact (lb_ne0 (by assumption)).symm | exact Eq.symm (by assumption), trivial⟩, by show va_P _ _ _ _; rw [ht]; exact hP⟩, hS.F ht⟩) hS.2.2 dX3_lose_59
set_option maxHeartbeats 4000000 in
set_option maxRecDepth 100000 in
theorem c_X3_turn (l : Launch) (D : va_G) (T : Nat → ClassId) (ad : Nat → Nat) (I : Nat → Int32) (R : Nat → Nat → Int32) (sz : Nat) (nx : Nat) (ct : Nat) (b : Nat) (hAD : AD 34 ad) (hnx : nx < 6) (hct : ct ≤ 6) (hI1 : I 1 = nI nx) (hI2 : I 2 = nI ct) (hb8 : b < 8) : Met l yX3_turn wsX3_turn ({ frames := 3, cells := 0, slots := 0, locals := 60 }) (va_Pc [.ref (ad 0), .int (nI b)] (CB D T ad I R sz)) (va_Qi (fun r (u9 : Unit) => r = (tuS (R 0) b 8) ∧ True) (fun (u9 : Unit) t => va_P D vwCl (cw T ad (pushI I nx ct) (updR (pushR R nx) 0 (tuF (R 0) b))) t.heap) (cA 34 ad sz)) 0 0 (cA 34 ad sz) := by
  refine Met.ofW (cc := cX3_turn) (maxL := 4) (ret := (some .int)) (by decide) rfl ?_
  intro p e s m args_ below meth c s₁ B hml hv
  obtain ⟨rfl, hsz, hP, hK, hN⟩ := hv
  have hx := B.exec
  have hb := B.bytes
  have hr := B.returns
  have hts := atoms_spec (ws := wsX3_turn) B.pre
  have hown : s.vm.findClass RX3 = some m.cls := findClass_of_methodNamed B.named
  have hlocks := B.notSynchronized
  have hinX0 : ∀ w ∈ u_ws RX0 TX0 4, w ∈ wsX3_turn := by decide +kernel
  have hinX3 : ∀ w ∈ u_ws RX3 TX3 6, w ∈ wsX3_turn := by decide +kernel
  subst hsz
  have hS : va_S (cA 34 ad s.heap.size) s.heap s.heap [] := va_S.rf
  have hD : ∀ I R, va_D (cA 34 ad s.heap.size) (cw T ad I R) := fun I R => cw_D hAD (fun k hk => cA_in hk)
  have hl := lv_entry ([.ref (ad 0), .int (nI b)]) (n := 4) (Nat.le_of_ble_eq_true rfl)
  rw [lg_entry_eq]
  generalize (lg_sl ([.ref (ad 0), .int (nI b)]) ++ List.replicate (4 - (lg_sl ([.ref (ad 0), .int (nI b)])).length) Slot.unset).toArray = ls at hl ⊢
  have hl : lv_has ls 4 [(0, .ref (ad 0)), (1, .int (nI b))] := hl
  refine lv_iload_n hx hb dX3_turn_0 rfl (lv_at hl 1 rfl) ?_
  refine cx_ri (va_runS (As := [.int (nI b)]) (rest := []) ⟨hx, hb, hml, hown, hts⟩ (c_X3_isNoPlace l  (nI b)) (va_cwS 1 hts gX3_turn_X3_isNoPlace rfl rfl rfl (by decide +kernel) ⟨Nat.le_of_ble_eq_true rfl, Nat.le_of_ble_eq_true rfl⟩) ⟨pc_blind, (fun U hU hW => ⟨rfl, trivial⟩)⟩ rfl rfl hl.1 rfl (lv_room (Nat.le_of_ble_eq_true rfl)) dX3_turn_1 ⟨Nat.le_of_ble_eq_true rfl, Nat.le_of_ble_eq_true rfl⟩) hS hP (fun H locs hP hS => ?_)
  refine cx_top (show (outI (nI b) 0 7) = 0 from out_8 hb8) ?_
  refine lv_if_eq (tgt := 17) hx hb dX3_turn_4 (by decide) (fun c_4 => ?_) (fun c_4 => absurd c_4 (by decide))
  refine lv_aload_n hx hb dX3_turn_17 rfl (lv_at hl 0 rfl) ?_
  refine va_get (D := D) (ci := 3) (v := .ref (ad 5)) (C := RX3) (T := TX3) (N := 6) hx hb hts hinX3 hown hK hP 0 cw_0 rfl 3 (by decide) (hts (.fieldLink RX3 27 "SquareGears" "saved" "LSquareGears$SavedGears;") (by decide +kernel)) (fun _ h9 => h9) rfl dX3_turn_18 ?_
  refine lv_aload_n hx hb dX3_turn_21 rfl (lv_at hl 0 rfl) ?_
  refine va_get (D := D) (ci := 3) (v := .ref (ad 1)) (C := RX3) (T := TX3) (N := 6) hx hb hts hinX3 hown hK hP 0 cw_0 rfl 0 (by decide) (hts (.fieldLink RX3 12 "SquareGears" "now" "LSquareGears$Gears;") (by decide +kernel)) (fun _ h9 => h9) rfl dX3_turn_22 ?_
  refine cx_wv (va_runVN (As := [.ref (ad 1)]) (rest := []) ⟨hx, hb, hml, hown, hts⟩ (c_X1_push l D T ad I R _ nx ct (hAD) (hnx) (hct) (hI1) (hI2)) ⟨va_cnB 1 hts gX3_turn_X1_push_n62 rfl rfl rfl (nwm_X3_62 hN) (hts (.initialized RX1) (by decide +kernel)) (by decide +kernel) ⟨Nat.le_of_ble_eq_true rfl, Nat.le_of_ble_eq_true rfl⟩, (hts (.instanceMethod yX1_push) (by decide +kernel)), (hts (.selects RX1 yX1_push yX1_push) (by decide +kernel))⟩ ⟨CB.blind, va_recv hK hP (ci := 1) (q0 := 5) rfl cw_5, (CB.pre hP hK hN rfl)⟩ rfl rfl hl.1 rfl (lv_room (Nat.le_of_ble_eq_true rfl)) dX3_turn_25 ⟨Nat.le_of_ble_eq_true rfl, Nat.le_of_ble_eq_true rfl⟩) hS (cA_le hS.1) (cA_le hS.1) (fun u_25 H locs hu_25 hP hkk hS => ?_)
  refine lv_iconst (v := 0) hx hb dX3_turn_28 (by decide) ?_
  refine lv_istore_n (lv' := [(2, .int 0), (0, .ref (ad 0)), (1, .int (nI b))]) hx hb dX3_turn_29 rfl hl (by decide) rfl (fun ls hl => ?_)
  refine lv_iconst (v := 0) hx hb dX3_turn_30 (by decide) ?_
  refine lv_istore_n (lv' := [(3, .int 0), (2, .int 0), (0, .ref (ad 0)), (1, .int (nI b))]) hx hb dX3_turn_31 rfl hl (by decide) rfl (fun ls hl => ?_)
  suffices ih_32 : ∀ (fu : Nat) (i : Nat) (f : Nat → Int32) (sn : Int32) (H : Heap) (locs : List Loc) (ls : Array Slot), 8 - i < fu → (i ≤ 8) → (∀ j, j < i → f j = tuF (R 0) b j) → (∀ j, i ≤ j → f j = (R 0) j) → (sn = tuS (R 0) b i) → va_P D vwCl (cw T ad (pushI I nx ct) (updR (pushR R nx) 0 f)) H →  va_S (cA 34 ad s.heap.size) s.heap H locs → lv_has ls 4 [(0, .ref (ad 0)), (1, .int (nI b)), (2, .int sn), (3, .int (nI i))] → W p l e (headSpec wsX3_turn ({ frames := 3, cells := 0, slots := 0, locals := 60 })).room s m ([.ref (ad 0), .int (nI b)] : List Value).toArray below meth c H locs 0 0 (MQ below (va_Qi (fun r (u9 : Unit) => r = (tuS (R 0) b 8) ∧ True) (fun (u9 : Unit) t => va_P D vwCl (cw T ad (pushI I nx ct) (updR (pushR R nx) 0 (tuF (R 0) b))) t.heap) (cA 34 ad s.heap.size)) ([.ref (ad 0), .int (nI b)] : List Value).toArray s 0 0 (cA 34 ad s.heap.size)) (F0 m 32 ls []) from
    ih_32 _ 0 (pushR R nx 0) 0 _ _ _ (Nat.lt_succ_self _) (by omega) (fun j h => absurd h (Nat.not_lt_zero j)) (fun j _ => by rw [pushR_k hnx (by omega)]) (rfl) (self19 hP) hS (lv_sub hl [2, 3, 1, 0] rfl)
  intro fu
  induction fu with
  | zero => intro i f sn H locs ls hfu; exact absurd hfu (Nat.not_lt_zero _)
  | succ fu ih_32 =>
    intro i f sn H locs ls hfu hi hf1 hf2 hs hP hS hl
    refine lv_iload_n hx hb dX3_turn_32 rfl (lv_at hl 3 rfl) ?_
    refine lv_bipush (v := 8) hx hb dX3_turn_33 (by decide) ?_
    refine lv_icmp_ge (tgt := 86) hx hb dX3_turn_35 (by decide) (fun c_35 => ?_) (fun c_35 => ?_)
    · have c_35 : 8 ≤ i := (nI_leI (a := 8) (b := i) (by omega) (by omega)).mp c_35
      obtain rfl : i = 8 := by omega
      have hP := fin_R0 (n := 0) (g := tuF (R 0) b) hP hf1
      refine lv_iload_n hx hb dX3_turn_86 rfl (lv_at hl 2 rfl) ?_
      exact W.iret (v := sn) hx hb hr (fun t ht hW => ⟨⟨sn, (), rfl, ⟨hs, trivial⟩, by show va_P _ _ _ _; rw [ht]; exact hP⟩, hS.F ht⟩) hS.2.2 dX3_turn_87
    · have c_35 : ¬ (8 ≤ i) := fun h => c_35 ((nI_leI (a := 8) (b := i) (by omega) (by omega)).mpr h)
      refine lv_iload_n hx hb dX3_turn_38 rfl (lv_at hl 3 rfl) ?_
      refine lv_iload_n hx hb dX3_turn_39 rfl (lv_at hl 1 rfl) ?_
      refine cx_ri (va_runS (As := [.int (nI i), .int (nI b)]) (rest := []) ⟨hx, hb, hml, hown, hts⟩ (c_X3_wave l  i b (by omega) (hb8)) (va_cwS 2 hts gX3_turn_X3_wave rfl rfl rfl (by decide +kernel) ⟨Nat.le_of_ble_eq_true rfl, Nat.le_of_ble_eq_true rfl⟩) ⟨pc_blind, (fun U hU hW => ⟨rfl, trivial⟩)⟩ rfl rfl hl.1 rfl (lv_room (Nat.le_of_ble_eq_true rfl)) dX3_turn_40 ⟨Nat.le_of_ble_eq_true rfl, Nat.le_of_ble_eq_true rfl⟩) hS hP (fun H locs hP hS => ?_)
      refine lv_if_ge (tgt := 80) hx hb dX3_turn_43 (by decide) (fun c_43 => ?_) (fun c_43 => ?_)
      · refine lv_iinc (k := 3) (v := (nI (i + 1))) (lv' := [(3, .int (nI (i + 1))), (0, .ref (ad 0)), (1, .int (nI b)), (2, .int sn)]) hx hb dX3_turn_80 hl rfl (nI_add i 1) (by decide) rfl (fun ls hl => ?_)
        refine lv_goto (tgt := 32) hx hb dX3_turn_83 (by decide) ?_
        exact ih_32 (i + 1) f sn _ _ _ (by omega) (by omega) (by first | exact st_up hf1 (tu_a (hf2 i (by omega)) c_43) | exact st_up hf1 (tu_b (hf2 i (by omega)) c_43 c_55) | exact up_at hf1 (tu_c (hf2 i (by omega)) c_43)) (by first | exact un_st hf2 | exact un_up hf2) (by first | exact ts_a hs c_43 | exact ts_b hs (hf2 i (by omega)) c_43 c_55 | exact ts_c hs (hf2 i (by omega)) c_43 c_55) (by first | exact hP | exact upd19 hP) hS (lv_sub hl [1, 2, 3, 0] rfl)
      · refine lv_aload_n hx hb dX3_turn_46 rfl (lv_at hl 0 rfl) ?_
        refine va_get (D := D) (ci := 3) (v := .ref (ad 1)) (C := RX3) (T := TX3) (N := 6) hx hb hts hinX3 hown hK hP 0 cw_0 rfl 0 (by decide) (hts (.fieldLink RX3 12 "SquareGears" "now" "LSquareGears$Gears;") (by decide +kernel)) (fun _ h9 => h9) rfl dX3_turn_47 ?_
        refine va_getN (D := D) (ci := 0) (v := .ref (ad 2)) (C := RX0) (T := TX0) (N := 4) hx hb hts hinX0 hown hK hP 1 cw_1 rfl 0 (by decide) (nw_use rfl (nwf_X3_66 hN)) (fun _ h9 => h9) rfl dX3_turn_50 ?_
        refine lv_iload_n hx hb dX3_turn_53 rfl (lv_at hl 3 rfl) ?_
        refine cx_iald (k := i) hx hb hK hP 2 1 cw_2 rfl (by omega) (by decide) dX3_turn_54 ?_
        refine lv_if_eq (tgt := 80) hx hb dX3_turn_55 (by decide) (fun c_55 => ?_) (fun c_55 => ?_)
        · refine lv_iinc (k := 3) (v := (nI (i + 1))) (lv' := [(3, .int (nI (i + 1))), (0, .ref (ad 0)), (1, .int (nI b)), (2, .int sn)]) hx hb dX3_turn_80 hl rfl (nI_add i 1) (by decide) rfl (fun ls hl => ?_)
          refine lv_goto (tgt := 32) hx hb dX3_turn_83 (by decide) ?_
          exact ih_32 (i + 1) f sn _ _ _ (by omega) (by omega) (by first | exact st_up hf1 (tu_a (hf2 i (by omega)) c_43) | exact st_up hf1 (tu_b (hf2 i (by omega)) c_43 c_55) | exact up_at hf1 (tu_c (hf2 i (by omega)) c_43)) (by first | exact un_st hf2 | exact un_up hf2) (by first | exact ts_a hs c_43 | exact ts_b hs (hf2 i (by omega)) c_43 c_55 | exact ts_c hs (hf2 i (by omega)) c_43 c_55) (by first | exact hP | exact upd19 hP) hS (lv_sub hl [1, 2, 3, 0] rfl)
        · refine lv_aload_n hx hb dX3_turn_58 rfl (lv_at hl 0 rfl) ?_
          refine va_get (D := D) (ci := 3) (v := .ref (ad 1)) (C := RX3) (T := TX3) (N := 6) hx hb hts hinX3 hown hK hP 0 cw_0 rfl 0 (by decide) (hts (.fieldLink RX3 12 "SquareGears" "now" "LSquareGears$Gears;") (by decide +kernel)) (fun _ h9 => h9) rfl dX3_turn_59 ?_
          refine va_getN (D := D) (ci := 0) (v := .ref (ad 2)) (C := RX0) (T := TX0) (N := 4) hx hb hts hinX0 hown hK hP 1 cw_1 rfl 0 (by decide) (nw_use rfl (nwf_X3_66 hN)) (fun _ h9 => h9) rfl dX3_turn_62 ?_
          refine lv_iload_n hx hb dX3_turn_65 rfl (lv_at hl 3 rfl) ?_
          refine lv_aload_n hx hb dX3_turn_66 rfl (lv_at hl 0 rfl) ?_
          refine va_get (D := D) (ci := 3) (v := .ref (ad 1)) (C := RX3) (T := TX3) (N := 6) hx hb hts hinX3 hown hK hP 0 cw_0 rfl 0 (by decide) (hts (.fieldLink RX3 12 "SquareGears" "now" "LSquareGears$Gears;") (by decide +kernel)) (fun _ h9 => h9) rfl dX3_turn_67 ?_
          refine va_getN (D := D) (ci := 0) (v := .ref (ad 2)) (C := RX0) (T := TX0) (N := 4) hx hb hts hinX0 hown hK hP 1 cw_1 rfl 0 (by decide) (nw_use rfl (nwf_X3_66 hN)) (fun _ h9 => h9) rfl dX3_turn_70 ?_
          refine lv_iload_n hx hb dX3_turn_73 rfl (lv_at hl 3 rfl) ?_
          refine cx_iald (k := i) hx hb hK hP 2 1 cw_2 rfl (by omega) (by decide) dX3_turn_74 ?_
          refine lv_ineg hx hb dX3_turn_75 ?_
          refine cx_iast (k := i) hx hb hK hP (hD _ _) hS 2 1 cw_2 rfl (by omega) (by decide) cw_R0 dX3_turn_76 (fun H locs hP hS => ?_)
          refine lv_iinc (k := 2) (v := (sn + 1)) (lv' := [(2, .int (sn + 1)), (0, .ref (ad 0)), (1, .int (nI b)), (3, .int (nI i))]) hx hb dX3_turn_77 hl rfl rfl (by decide) rfl (fun ls hl => ?_)
          refine lv_iinc (k := 3) (v := (nI (i + 1))) (lv' := [(3, .int (nI (i + 1))), (2, .int (sn + 1)), (0, .ref (ad 0)), (1, .int (nI b))]) hx hb dX3_turn_80 hl rfl (nI_add i 1) (by decide) rfl (fun ls hl => ?_)
          refine lv_goto (tgt := 32) hx hb dX3_turn_83 (by decide) ?_
          exact ih_32 (i + 1) (upd f i (-(f i))) (sn + 1) _ _ _ (by omega) (by omega) (by first | exact st_up hf1 (tu_a (hf2 i (by omega)) c_43) | exact st_up hf1 (tu_b (hf2 i (by omega)) c_43 c_55) | exact up_at hf1 (tu_c (hf2 i (by omega)) c_43)) (by first | exact un_st hf2 | exact un_up hf2) (by first | exact ts_a hs c_43 | exact ts_b hs (hf2 i (by omega)) c_43 c_55 | exact ts_c hs (hf2 i (by omega)) c_43 c_55) (by first | exact hP | exact upd19 hP) hS (lv_sub hl [2, 3, 1, 0] rfl)
set_option maxHeartbeats 4000000 in
set_option maxRecDepth 100000 in
theorem c_X3_drop (l : Launch) (D : va_G) (T : Nat → ClassId) (ad : Nat → Nat) (I : Nat → Int32) (R : Nat → Nat → Int32) (sz : Nat) (nx : Nat) (ct : Nat) (x : Int32) (hAD : AD 34 ad) (hnx : nx < 6) (hct : ct ≤ 6) (hI1 : I 1 = nI nx) (hI2 : I 2 = nI ct) (hx9 : outI x 1 99 = 0) : Met l yX3_drop wsX3_drop ({ frames := 3, cells := 0, slots := 0, locals := 60 }) (va_Pc [.ref (ad 0), .int x] (CB D T ad I R sz)) (va_Qi (fun r (u9 : Unit) => r = (doS (R 0) x 8) ∧ True) (fun (u9 : Unit) t => va_P D vwCl (cw T ad (pushI I nx ct) (updR (pushR R nx) 0 (doF (R 0) x))) t.heap) (cA 34 ad sz)) 0 0 (cA 34 ad sz) := by
  refine Met.ofW (cc := cX3_drop) (maxL := 4) (ret := (some .int)) (by decide) rfl ?_
  intro p e s m args_ below meth c s₁ B hml hv
  obtain ⟨rfl, hsz, hP, hK, hN⟩ := hv
  have hx := B.exec
  have hb := B.bytes
  have hr := B.returns
  have hts := atoms_spec (ws := wsX3_drop) B.pre
  have hown : s.vm.findClass RX3 = some m.cls := findClass_of_methodNamed B.named
  have hlocks := B.notSynchronized
  have hinX0 : ∀ w ∈ u_ws RX0 TX0 4, w ∈ wsX3_drop := by decide +kernel
  have hinX3 : ∀ w ∈ u_ws RX3 TX3 6, w ∈ wsX3_drop := by decide +kernel
  subst hsz
  have hS : va_S (cA 34 ad s.heap.size) s.heap s.heap [] := va_S.rf
  have hD : ∀ I R, va_D (cA 34 ad s.heap.size) (cw T ad I R) := fun I R => cw_D hAD (fun k hk => cA_in hk)
  have hl := lv_entry ([.ref (ad 0), .int x]) (n := 4) (Nat.le_of_ble_eq_true rfl)
  rw [lg_entry_eq]
  generalize (lg_sl ([.ref (ad 0), .int x]) ++ List.replicate (4 - (lg_sl ([.ref (ad 0), .int x])).length) Slot.unset).toArray = ls at hl ⊢
  have hl : lv_has ls 4 [(0, .ref (ad 0)), (1, .int x)] := hl
  refine lv_iload_n hx hb dX3_drop_0 rfl (lv_at hl 1 rfl) ?_
  refine lv_iconst (v := 1) hx hb dX3_drop_1 (by decide) ?_
  refine lv_bipush (v := 99) hx hb dX3_drop_2 (by decide) ?_
  refine cx_ri (va_runS (As := [.int x, .int 1, .int 99]) (rest := []) ⟨hx, hb, hml, hown, hts⟩ (c_X3_isOutside l  x 1 99) (va_cwS 3 hts gX3_drop_X3_isOutside rfl rfl rfl (by decide +kernel) ⟨Nat.le_of_ble_eq_true rfl, Nat.le_of_ble_eq_true rfl⟩) ⟨pc_blind, (fun U hU hW => ⟨rfl, trivial⟩)⟩ rfl rfl hl.1 rfl (lv_room (Nat.le_of_ble_eq_true rfl)) dX3_drop_4 ⟨Nat.le_of_ble_eq_true rfl, Nat.le_of_ble_eq_true rfl⟩) hS hP (fun H locs hP hS => ?_)
  refine cx_top (show (outI x 1 99) = 0 from hx9) ?_
  refine lv_if_eq (tgt := 20) hx hb dX3_drop_7 (by decide) (fun c_7 => ?_) (fun c_7 => absurd c_7 (by decide))
  refine lv_aload_n hx hb dX3_drop_20 rfl (lv_at hl 0 rfl) ?_
  refine va_get (D := D) (ci := 3) (v := .ref (ad 5)) (C := RX3) (T := TX3) (N := 6) hx hb hts hinX3 hown hK hP 0 cw_0 rfl 3 (by decide) (hts (.fieldLink RX3 27 "SquareGears" "saved" "LSquareGears$SavedGears;") (by decide +kernel)) (fun _ h9 => h9) rfl dX3_drop_21 ?_
  refine lv_aload_n hx hb dX3_drop_24 rfl (lv_at hl 0 rfl) ?_
  refine va_get (D := D) (ci := 3) (v := .ref (ad 1)) (C := RX3) (T := TX3) (N := 6) hx hb hts hinX3 hown hK hP 0 cw_0 rfl 0 (by decide) (hts (.fieldLink RX3 12 "SquareGears" "now" "LSquareGears$Gears;") (by decide +kernel)) (fun _ h9 => h9) rfl dX3_drop_25 ?_
  refine cx_wv (va_runVN (As := [.ref (ad 1)]) (rest := []) ⟨hx, hb, hml, hown, hts⟩ (c_X1_push l D T ad I R _ nx ct (hAD) (hnx) (hct) (hI1) (hI2)) ⟨va_cnB 1 hts gX3_drop_X1_push_n62 rfl rfl rfl (nwm_X3_62 hN) (hts (.initialized RX1) (by decide +kernel)) (by decide +kernel) ⟨Nat.le_of_ble_eq_true rfl, Nat.le_of_ble_eq_true rfl⟩, (hts (.instanceMethod yX1_push) (by decide +kernel)), (hts (.selects RX1 yX1_push yX1_push) (by decide +kernel))⟩ ⟨CB.blind, va_recv hK hP (ci := 1) (q0 := 5) rfl cw_5, (CB.pre hP hK hN rfl)⟩ rfl rfl hl.1 rfl (lv_room (Nat.le_of_ble_eq_true rfl)) dX3_drop_28 ⟨Nat.le_of_ble_eq_true rfl, Nat.le_of_ble_eq_true rfl⟩) hS (cA_le hS.1) (cA_le hS.1) (fun u_28 H locs hu_28 hP hkk hS => ?_)
  refine lv_iconst (v := 0) hx hb dX3_drop_31 (by decide) ?_
  refine lv_istore_n (lv' := [(2, .int 0), (0, .ref (ad 0)), (1, .int x)]) hx hb dX3_drop_32 rfl hl (by decide) rfl (fun ls hl => ?_)
  refine lv_iconst (v := 0) hx hb dX3_drop_33 (by decide) ?_
  refine lv_istore_n (lv' := [(3, .int 0), (2, .int 0), (0, .ref (ad 0)), (1, .int x)]) hx hb dX3_drop_34 rfl hl (by decide) rfl (fun ls hl => ?_)
  suffices ih_35 : ∀ (fu : Nat) (i : Nat) (f : Nat → Int32) (sn : Int32) (H : Heap) (locs : List Loc) (ls : Array Slot), 8 - i < fu → (i ≤ 8) → (∀ j, j < i → f j = doF (R 0) x j) → (∀ j, i ≤ j → f j = (R 0) j) → (sn = doS (R 0) x i) → va_P D vwCl (cw T ad (pushI I nx ct) (updR (pushR R nx) 0 f)) H →  va_S (cA 34 ad s.heap.size) s.heap H locs → lv_has ls 4 [(0, .ref (ad 0)), (1, .int x), (2, .int sn), (3, .int (nI i))] → W p l e (headSpec wsX3_drop ({ frames := 3, cells := 0, slots := 0, locals := 60 })).room s m ([.ref (ad 0), .int x] : List Value).toArray below meth c H locs 0 0 (MQ below (va_Qi (fun r (u9 : Unit) => r = (doS (R 0) x 8) ∧ True) (fun (u9 : Unit) t => va_P D vwCl (cw T ad (pushI I nx ct) (updR (pushR R nx) 0 (doF (R 0) x))) t.heap) (cA 34 ad s.heap.size)) ([.ref (ad 0), .int x] : List Value).toArray s 0 0 (cA 34 ad s.heap.size)) (F0 m 35 ls []) from
    ih_35 _ 0 (pushR R nx 0) 0 _ _ _ (Nat.lt_succ_self _) (by omega) (fun j h => absurd h (Nat.not_lt_zero j)) (fun j _ => by rw [pushR_k hnx (by omega)]) (rfl) (self19 hP) hS (lv_sub hl [2, 3, 1, 0] rfl)
  intro fu
  induction fu with
  | zero => intro i f sn H locs ls hfu; exact absurd hfu (Nat.not_lt_zero _)
  | succ fu ih_35 =>
    intro i f sn H locs ls hfu hi hf1 hf2 hs hP hS hl
    refine lv_iload_n hx hb dX3_drop_35 rfl (lv_at hl 3 rfl) ?_
    refine lv_bipush (v := 8) hx hb dX3_drop_36 (by decide) ?_
    refine lv_icmp_ge (tgt := 88) hx hb dX3_drop_38 (by decide) (fun c_38 => ?_) (fun c_38 => ?_)
    · have c_38 : 8 ≤ i := (nI_leI (a := 8) (b := i) (by omega) (by omega)).mp c_38
      obtain rfl : i = 8 := by omega
      have hP := fin_R0 (n := 0) (g := doF (R 0) x) hP hf1
      refine lv_iload_n hx hb dX3_drop_88 rfl (lv_at hl 2 rfl) ?_
      exact W.iret (v := sn) hx hb hr (fun t ht hW => ⟨⟨sn, (), rfl, ⟨hs, trivial⟩, by show va_P _ _ _ _; rw [ht]; exact hP⟩, hS.F ht⟩) hS.2.2 dX3_drop_89
    · have c_38 : ¬ (8 ≤ i) := fun h => c_38 ((nI_leI (a := 8) (b := i) (by omega) (by omega)).mpr h)
      refine lv_aload_n hx hb dX3_drop_41 rfl (lv_at hl 0 rfl) ?_
      refine va_get (D := D) (ci := 3) (v := .ref (ad 1)) (C := RX3) (T := TX3) (N := 6) hx hb hts hinX3 hown hK hP 0 cw_0 rfl 0 (by decide) (hts (.fieldLink RX3 12 "SquareGears" "now" "LSquareGears$Gears;") (by decide +kernel)) (fun _ h9 => h9) rfl dX3_drop_42 ?_
      refine va_getN (D := D) (ci := 0) (v := .ref (ad 2)) (C := RX0) (T := TX0) (N := 4) hx hb hts hinX0 hown hK hP 1 cw_1 rfl 0 (by decide) (nw_use rfl (nwf_X3_66 hN)) (fun _ h9 => h9) rfl dX3_drop_45 ?_
      refine lv_iload_n hx hb dX3_drop_48 rfl (lv_at hl 3 rfl) ?_
      refine cx_iald (k := i) hx hb hK hP 2 1 cw_2 rfl (by omega) (by decide) dX3_drop_49 ?_
      refine lv_if_eq (tgt := 82) hx hb dX3_drop_50 (by decide) (fun c_50 => ?_) (fun c_50 => ?_)
      · refine lv_iinc (k := 3) (v := (nI (i + 1))) (lv' := [(3, .int (nI (i + 1))), (0, .ref (ad 0)), (1, .int x), (2, .int sn)]) hx hb dX3_drop_82 hl rfl (nI_add i 1) (by decide) rfl (fun ls hl => ?_)
        refine lv_goto (tgt := 35) hx hb dX3_drop_85 (by decide) ?_
        exact ih_35 (i + 1) f sn _ _ _ (by omega) (by omega) (by first | exact st_up hf1 (do_a (hf2 i (by omega)) c_50) | exact st_up hf1 (do_b (hf2 i (by omega)) c_50 c_66) | exact up_at hf1 (do_c (hf2 i (by omega)) c_50 c_66)) (by first | exact un_st hf2 | exact un_up hf2) (by first | exact ds_a hs (hf2 i (by omega)) c_50 | exact ds_b hs (hf2 i (by omega)) c_50 c_66 | exact ds_c hs (hf2 i (by omega)) c_50 c_66) (by first | exact hP | exact upd19 hP) hS (lv_sub hl [1, 2, 3, 0] rfl)
      · refine lv_aload_n hx hb dX3_drop_53 rfl (lv_at hl 0 rfl) ?_
        refine va_get (D := D) (ci := 3) (v := .ref (ad 1)) (C := RX3) (T := TX3) (N := 6) hx hb hts hinX3 hown hK hP 0 cw_0 rfl 0 (by decide) (hts (.fieldLink RX3 12 "SquareGears" "now" "LSquareGears$Gears;") (by decide +kernel)) (fun _ h9 => h9) rfl dX3_drop_54 ?_
        refine va_getN (D := D) (ci := 0) (v := .ref (ad 2)) (C := RX0) (T := TX0) (N := 4) hx hb hts hinX0 hown hK hP 1 cw_1 rfl 0 (by decide) (nw_use rfl (nwf_X3_66 hN)) (fun _ h9 => h9) rfl dX3_drop_57 ?_
        refine lv_iload_n hx hb dX3_drop_60 rfl (lv_at hl 3 rfl) ?_
        refine cx_iald (k := i) hx hb hK hP 2 1 cw_2 rfl (by omega) (by decide) dX3_drop_61 ?_
        refine va_mabs hx hb (hml.trans hl.1.symm) hown (hts (.methodLink RX3 83 Lib.Math.abs.name) (by decide +kernel)) (hts (.static Lib.Math.abs.name) (by decide +kernel)) (hts (.initialized "java/lang/Math") (by decide +kernel)) (hts (.code Lib.Math.abs.name Lib.Math.abs.code 1 (some .int)) (by decide +kernel)) (Nat.le_of_ble_eq_true rfl) (Nat.le_of_ble_eq_true rfl) (Nat.zero_le _) (Nat.zero_le _) dX3_drop_62 ?_
        refine lv_iload_n hx hb dX3_drop_65 rfl (lv_at hl 1 rfl) ?_
        refine lv_icmp_ge (tgt := 82) hx hb dX3_drop_66 (by decide) (fun c_66 => ?_) (fun c_66 => ?_)
        · refine lv_iinc (k := 3) (v := (nI (i + 1))) (lv' := [(3, .int (nI (i + 1))), (0, .ref (ad 0)), (1, .int x), (2, .int sn)]) hx hb dX3_drop_82 hl rfl (nI_add i 1) (by decide) rfl (fun ls hl => ?_)
          refine lv_goto (tgt := 35) hx hb dX3_drop_85 (by decide) ?_
          exact ih_35 (i + 1) f sn _ _ _ (by omega) (by omega) (by first | exact st_up hf1 (do_a (hf2 i (by omega)) c_50) | exact st_up hf1 (do_b (hf2 i (by omega)) c_50 c_66) | exact up_at hf1 (do_c (hf2 i (by omega)) c_50 c_66)) (by first | exact un_st hf2 | exact un_up hf2) (by first | exact ds_a hs (hf2 i (by omega)) c_50 | exact ds_b hs (hf2 i (by omega)) c_50 c_66 | exact ds_c hs (hf2 i (by omega)) c_50 c_66) (by first | exact hP | exact upd19 hP) hS (lv_sub hl [1, 2, 3, 0] rfl)
        · refine lv_aload_n hx hb dX3_drop_69 rfl (lv_at hl 0 rfl) ?_
          refine va_get (D := D) (ci := 3) (v := .ref (ad 1)) (C := RX3) (T := TX3) (N := 6) hx hb hts hinX3 hown hK hP 0 cw_0 rfl 0 (by decide) (hts (.fieldLink RX3 12 "SquareGears" "now" "LSquareGears$Gears;") (by decide +kernel)) (fun _ h9 => h9) rfl dX3_drop_70 ?_
          refine va_getN (D := D) (ci := 0) (v := .ref (ad 2)) (C := RX0) (T := TX0) (N := 4) hx hb hts hinX0 hown hK hP 1 cw_1 rfl 0 (by decide) (nw_use rfl (nwf_X3_66 hN)) (fun _ h9 => h9) rfl dX3_drop_73 ?_
          refine lv_iload_n hx hb dX3_drop_76 rfl (lv_at hl 3 rfl) ?_
          refine lv_iconst (v := 0) hx hb dX3_drop_77 (by decide) ?_
          refine cx_iast (k := i) hx hb hK hP (hD _ _) hS 2 1 cw_2 rfl (by omega) (by decide) cw_R0 dX3_drop_78 (fun H locs hP hS => ?_)
          refine lv_iinc (k := 2) (v := (sn + 1)) (lv' := [(2, .int (sn + 1)), (0, .ref (ad 0)), (1, .int x), (3, .int (nI i))]) hx hb dX3_drop_79 hl rfl rfl (by decide) rfl (fun ls hl => ?_)
          refine lv_iinc (k := 3) (v := (nI (i + 1))) (lv' := [(3, .int (nI (i + 1))), (2, .int (sn + 1)), (0, .ref (ad 0)), (1, .int x)]) hx hb dX3_drop_82 hl rfl (nI_add i 1) (by decide) rfl (fun ls hl => ?_)
          refine lv_goto (tgt := 35) hx hb dX3_drop_85 (by decide) ?_
          exact ih_35 (i + 1) (upd f i 0) (sn + 1) _ _ _ (by omega) (by omega) (by first | exact st_up hf1 (do_a (hf2 i (by omega)) c_50) | exact st_up hf1 (do_b (hf2 i (by omega)) c_50 c_66) | exact up_at hf1 (do_c (hf2 i (by omega)) c_50 c_66)) (by first | exact un_st hf2 | exact un_up hf2) (by first | exact ds_a hs (hf2 i (by omega)) c_50 | exact ds_b hs (hf2 i (by omega)) c_50 c_66 | exact ds_c hs (hf2 i (by omega)) c_50 c_66) (by first | exact hP | exact upd19 hP) hS (lv_sub hl [2, 3, 1, 0] rfl)
set_option maxHeartbeats 4000000 in
set_option maxRecDepth 100000 in
theorem c_X3_copy (l : Launch) (D : va_G) (T : Nat → ClassId) (ad : Nat → Nat) (I : Nat → Int32) (R : Nat → Nat → Int32) (sz : Nat) (nx : Nat) (ct : Nat) (lm : Nat) (hAD : AD 34 ad) (hnx : nx < 6) (hct : ct ≤ 6) (hI1 : I 1 = nI nx) (hI2 : I 2 = nI ct) (hm : lm < 256) (hI : I 4 = nI lm) : Met l yX3_copy wsX3_copy ({ frames := 3, cells := 0, slots := 0, locals := 65 }) (va_Pc [.ref (ad 0)] (CB D T ad I R sz)) (va_Qi (fun r (u9 : Unit) => r = (cgS (R 1) (fun n => trS (dr (R 0) lm) n 8) 8) ∧ True) (fun (u9 : Unit) t => va_P D vwCl (cw T ad (pushI I nx ct) (updR (pushR R nx) 1 (fun n => trS (dr (R 0) lm) n 8))) t.heap) (cA 34 ad sz)) 0 0 (cA 34 ad sz) := by
  refine Met.ofW (cc := cX3_copy) (maxL := 4) (ret := (some .int)) (by decide) rfl ?_
  intro p e s m args_ below meth c s₁ B hml hv
  obtain ⟨rfl, hsz, hP, hK, hN⟩ := hv
  have hx := B.exec
  have hb := B.bytes
  have hr := B.returns
  have hts := atoms_spec (ws := wsX3_copy) B.pre
  have hown : s.vm.findClass RX3 = some m.cls := findClass_of_methodNamed B.named
  have hlocks := B.notSynchronized
  have hinX0 : ∀ w ∈ u_ws RX0 TX0 4, w ∈ wsX3_copy := by decide +kernel
  have hinX3 : ∀ w ∈ u_ws RX3 TX3 6, w ∈ wsX3_copy := by decide +kernel
  subst hsz
  have hS : va_S (cA 34 ad s.heap.size) s.heap s.heap [] := va_S.rf
  have hD : ∀ I R, va_D (cA 34 ad s.heap.size) (cw T ad I R) := fun I R => cw_D hAD (fun k hk => cA_in hk)
  have hl := lv_entry ([.ref (ad 0)]) (n := 4) (Nat.le_of_ble_eq_true rfl)
  rw [lg_entry_eq]
  generalize (lg_sl ([.ref (ad 0)]) ++ List.replicate (4 - (lg_sl ([.ref (ad 0)])).length) Slot.unset).toArray = ls at hl ⊢
  have hl : lv_has ls 4 [(0, .ref (ad 0))] := hl
  refine lv_aload_n hx hb dX3_copy_0 rfl (lv_at hl 0 rfl) ?_
  refine va_get (D := D) (ci := 3) (v := .ref (ad 5)) (C := RX3) (T := TX3) (N := 6) hx hb hts hinX3 hown hK hP 0 cw_0 rfl 3 (by decide) (hts (.fieldLink RX3 27 "SquareGears" "saved" "LSquareGears$SavedGears;") (by decide +kernel)) (fun _ h9 => h9) rfl dX3_copy_1 ?_
  refine lv_aload_n hx hb dX3_copy_4 rfl (lv_at hl 0 rfl) ?_
  refine va_get (D := D) (ci := 3) (v := .ref (ad 1)) (C := RX3) (T := TX3) (N := 6) hx hb hts hinX3 hown hK hP 0 cw_0 rfl 0 (by decide) (hts (.fieldLink RX3 12 "SquareGears" "now" "LSquareGears$Gears;") (by decide +kernel)) (fun _ h9 => h9) rfl dX3_copy_5 ?_
  refine cx_wv (va_runVN (As := [.ref (ad 1)]) (rest := []) ⟨hx, hb, hml, hown, hts⟩ (c_X1_push l D T ad I R _ nx ct (hAD) (hnx) (hct) (hI1) (hI2)) ⟨va_cnB 1 hts gX3_copy_X1_push_n62 rfl rfl rfl (nwm_X3_62 hN) (hts (.initialized RX1) (by decide +kernel)) (by decide +kernel) ⟨Nat.le_of_ble_eq_true rfl, Nat.le_of_ble_eq_true rfl⟩, (hts (.instanceMethod yX1_push) (by decide +kernel)), (hts (.selects RX1 yX1_push yX1_push) (by decide +kernel))⟩ ⟨CB.blind, va_recv hK hP (ci := 1) (q0 := 5) rfl cw_5, (CB.pre hP hK hN rfl)⟩ rfl rfl hl.1 rfl (lv_room (Nat.le_of_ble_eq_true rfl)) dX3_copy_8 ⟨Nat.le_of_ble_eq_true rfl, Nat.le_of_ble_eq_true rfl⟩) hS (cA_le hS.1) (cA_le hS.1) (fun u_8 H locs hu_8 hP hkk hS => ?_)
  refine lv_iconst (v := 0) hx hb dX3_copy_11 (by decide) ?_
  refine lv_istore_n (lv' := [(1, .int 0), (0, .ref (ad 0))]) hx hb dX3_copy_12 rfl hl (by decide) rfl (fun ls hl => ?_)
  refine lv_iconst (v := 0) hx hb dX3_copy_13 (by decide) ?_
  refine lv_istore_n (lv' := [(2, .int 0), (1, .int 0), (0, .ref (ad 0))]) hx hb dX3_copy_14 rfl hl (by decide) rfl (fun ls hl => ?_)
  suffices ih_15 : ∀ (fu : Nat) (i : Nat) (f : Nat → Int32) (sn : Int32) (H : Heap) (locs : List Loc) (ls : Array Slot), 8 - i < fu → (i ≤ 8) → (∀ j, j < i → f j = (fun n => trS (dr (R 0) lm) n 8) j) → (∀ j, i ≤ j → f j = (R 1) j) → (sn = cgS (R 1) (fun n => trS (dr (R 0) lm) n 8) i) → va_P D vwCl (cw T ad (pushI I nx ct) (updR (pushR R nx) 1 f)) H →  va_S (cA 34 ad s.heap.size) s.heap H locs → lv_has ls 4 [(0, .ref (ad 0)), (1, .int sn), (2, .int (nI i))] → W p l e (headSpec wsX3_copy ({ frames := 3, cells := 0, slots := 0, locals := 65 })).room s m ([.ref (ad 0)] : List Value).toArray below meth c H locs 0 0 (MQ below (va_Qi (fun r (u9 : Unit) => r = (cgS (R 1) (fun n => trS (dr (R 0) lm) n 8) 8) ∧ True) (fun (u9 : Unit) t => va_P D vwCl (cw T ad (pushI I nx ct) (updR (pushR R nx) 1 (fun n => trS (dr (R 0) lm) n 8))) t.heap) (cA 34 ad s.heap.size)) ([.ref (ad 0)] : List Value).toArray s 0 0 (cA 34 ad s.heap.size)) (F0 m 15 ls []) from
    ih_15 _ 0 (pushR R nx 1) 0 _ _ _ (Nat.lt_succ_self _) (by omega) (fun j h => absurd h (Nat.not_lt_zero j)) (fun j _ => by rw [pushR_k hnx (by omega)]) (rfl) (self19 hP) hS (lv_sub hl [2, 1, 0] rfl)
  intro fu
  induction fu with
  | zero => intro i f sn H locs ls hfu; exact absurd hfu (Nat.not_lt_zero _)
  | succ fu ih_15 =>
    intro i f sn H locs ls hfu hi hf1 hf2 hs hP hS hl
    refine lv_iload_n hx hb dX3_copy_15 rfl (lv_at hl 2 rfl) ?_
    refine lv_bipush (v := 8) hx hb dX3_copy_16 (by decide) ?_
    refine lv_icmp_ge (tgt := 62) hx hb dX3_copy_18 (by decide) (fun c_18 => ?_) (fun c_18 => ?_)
    · have c_18 : 8 ≤ i := (nI_leI (a := 8) (b := i) (by omega) (by omega)).mp c_18
      obtain rfl : i = 8 := by omega
      have hP := fin_R1 (n := 0) (g := (fun n => trS (dr (R 0) lm) n 8)) hP hf1
      refine lv_iload_n hx hb dX3_copy_62 rfl (lv_at hl 1 rfl) ?_
      exact W.iret (v := sn) hx hb hr (fun t ht hW => ⟨⟨sn, (), rfl, ⟨hs, trivial⟩, by show va_P _ _ _ _; rw [ht]; exact hP⟩, hS.F ht⟩) hS.2.2 dX3_copy_63
    · have c_18 : ¬ (8 ≤ i) := fun h => c_18 ((nI_leI (a := 8) (b := i) (by omega) (by omega)).mpr h)
      refine lv_aload_n hx hb dX3_copy_21 rfl (lv_at hl 0 rfl) ?_
      refine va_get (D := D) (ci := 3) (v := .ref (ad 1)) (C := RX3) (T := TX3) (N := 6) hx hb hts hinX3 hown hK hP 0 cw_0 rfl 0 (by decide) (hts (.fieldLink RX3 12 "SquareGears" "now" "LSquareGears$Gears;") (by decide +kernel)) (fun _ h9 => h9) rfl dX3_copy_22 ?_
      refine lv_iload_n hx hb dX3_copy_25 rfl (lv_at hl 2 rfl) ?_
      refine cx_ri (va_runVN (As := [.int (nI i)]) (rest := []) ⟨hx, hb, hml, hown, hts⟩ (c_X0_traceAt l D T ad (pushI I nx ct) (updR (pushR R nx) 1 f) lm i (hm) (pushI_4.trans hI) (by omega)) ⟨va_cnB 1 hts gX3_copy_X0_traceAt_n96 rfl rfl rfl (nwm_X3_96 hN) (hts (.initialized RX0) (by decide +kernel)) (by decide +kernel) ⟨Nat.le_of_ble_eq_true rfl, Nat.le_of_ble_eq_true rfl⟩, (hts (.instanceMethod yX0_traceAt) (by decide +kernel)), (hts (.selects RX0 yX0_traceAt yX0_traceAt) (by decide +kernel))⟩ ⟨CR.blind, va_recv hK hP (ci := 0) (q0 := 1) rfl cw_1, (CR.pre hP hK hN rfl)⟩ rfl rfl hl.1 rfl (lv_room (Nat.le_of_ble_eq_true rfl)) dX3_copy_26 ⟨Nat.le_of_ble_eq_true rfl, Nat.le_of_ble_eq_true rfl⟩) hS hP (fun H locs hP hS => ?_)
      refine cx_top (show (trS (dr (((pushR R nx) 0)) lm) i 8) = (trS (dr (R 0) lm) i 8) from by show trS (dr (pushR R nx 0) lm) i 8 = _; rw [pushR_k hnx (by omega)]) ?_
      refine lv_istore_n (lv' := [(3, .int (trS (dr (R 0) lm) i 8)), (0, .ref (ad 0)), (1, .int sn), (2, .int (nI i))]) hx hb dX3_copy_29 rfl hl (by decide) rfl (fun ls hl => ?_)
      refine lv_aload_n hx hb dX3_copy_30 rfl (lv_at hl 1 rfl) ?_
      refine va_get (D := D) (ci := 3) (v := .ref (ad 1)) (C := RX3) (T := TX3) (N := 6) hx hb hts hinX3 hown hK hP 0 cw_0 rfl 0 (by decide) (hts (.fieldLink RX3 12 "SquareGears" "now" "LSquareGears$Gears;") (by decide +kernel)) (fun _ h9 => h9) rfl dX3_copy_31 ?_
      refine va_getN (D := D) (ci := 0) (v := .ref (ad 3)) (C := RX0) (T := TX0) (N := 4) hx hb hts hinX0 hown hK hP 1 cw_1 rfl 1 (by decide) (nw_use rfl (nwf_X3_93 hN)) (fun _ h9 => h9) rfl dX3_copy_34 ?_
      refine lv_iload_n hx hb dX3_copy_37 rfl (lv_at hl 3 rfl) ?_
      refine cx_iald (k := i) hx hb hK hP 3 1 cw_3 rfl (by omega) (by decide) dX3_copy_38 ?_
      refine lv_iload_n hx hb dX3_copy_39 rfl (lv_at hl 0 rfl) ?_
      refine lv_icmp_eq (tgt := 56) hx hb dX3_copy_40 (by decide) (fun c_40 => ?_) (fun c_40 => ?_)
      · refine lv_iinc (k := 3) (v := (nI (i + 1))) (lv' := [(2, .int (nI (i + 1))), (3, .int (trS (dr (R 0) lm) i 8)), (0, .ref (ad 0)), (1, .int sn)]) hx hb dX3_copy_56 hl rfl (nI_add i 1) (by decide) rfl (fun ls hl => ?_)
        refine lv_goto (tgt := 15) hx hb dX3_copy_59 (by decide) ?_
        exact ih_15 (i + 1) f sn _ _ _ (by omega) (by omega) (by first | exact st_up hf1 c_40 | exact up_at hf1 rfl) (by first | exact un_st hf2 | exact un_up hf2) (by first | exact cg_a hs (hf2 i (by omega)) c_40 | exact cg_c hs (hf2 i (by omega)) c_40) (by first | exact hP | exact upd19 hP) hS (lv_sub hl [2, 3, 0] rfl)
      · refine lv_aload_n hx hb dX3_copy_43 rfl (lv_at hl 1 rfl) ?_
        refine va_get (D := D) (ci := 3) (v := .ref (ad 1)) (C := RX3) (T := TX3) (N := 6) hx hb hts hinX3 hown hK hP 0 cw_0 rfl 0 (by decide) (hts (.fieldLink RX3 12 "SquareGears" "now" "LSquareGears$Gears;") (by decide +kernel)) (fun _ h9 => h9) rfl dX3_copy_44 ?_
        refine va_getN (D := D) (ci := 0) (v := .ref (ad 3)) (C := RX0) (T := TX0) (N := 4) hx hb hts hinX0 hown hK hP 1 cw_1 rfl 1 (by decide) (nw_use rfl (nwf_X3_93 hN)) (fun _ h9 => h9) rfl dX3_copy_47 ?_
        refine lv_iload_n hx hb dX3_copy_50 rfl (lv_at hl 3 rfl) ?_
        refine lv_iload_n hx hb dX3_copy_51 rfl (lv_at hl 0 rfl) ?_
        refine cx_iast (k := i) hx hb hK hP (hD _ _) hS 3 1 cw_3 rfl (by omega) (by decide) cw_R1 dX3_copy_52 (fun H locs hP hS => ?_)
        refine lv_iinc (k := 2) (v := (sn + 1)) (lv' := [(1, .int (sn + 1)), (3, .int (trS (dr (R 0) lm) i 8)), (0, .ref (ad 0)), (2, .int (nI i))]) hx hb dX3_copy_53 hl rfl rfl (by decide) rfl (fun ls hl => ?_)
        refine lv_iinc (k := 3) (v := (nI (i + 1))) (lv' := [(2, .int (nI (i + 1))), (1, .int (sn + 1)), (3, .int (trS (dr (R 0) lm) i 8)), (0, .ref (ad 0))]) hx hb dX3_copy_56 hl rfl (nI_add i 1) (by decide) rfl (fun ls hl => ?_)
        refine lv_goto (tgt := 15) hx hb dX3_copy_59 (by decide) ?_
        exact ih_15 (i + 1) (upd f i (trS (dr (R 0) lm) i 8)) (sn + 1) _ _ _ (by omega) (by omega) (by first | exact st_up hf1 c_40 | exact up_at hf1 rfl) (by first | exact un_st hf2 | exact un_up hf2) (by first | exact cg_a hs (hf2 i (by omega)) c_40 | exact cg_c hs (hf2 i (by omega)) c_40) (by first | exact hP | exact upd19 hP) hS (lv_sub hl [3, 1, 0] rfl)
set_option maxHeartbeats 4000000 in
set_option maxRecDepth 100000 in
theorem c_X3_fit (l : Launch) (D : va_G) (T : Nat → ClassId) (ad : Nat → Nat) (I : Nat → Int32) (R : Nat → Nat → Int32) (sz : Nat) (nx : Nat) (ct : Nat) (hAD : AD 34 ad) (hnx : nx < 6) (hct : ct ≤ 6) (hI1 : I 1 = nI nx) (hI2 : I 2 = nI ct) : Met l yX3_fit wsX3_fit ({ frames := 3, cells := 0, slots := 0, locals := 64 }) (va_Pc [.ref (ad 0)] (CB D T ad I R sz)) (va_Qi (fun r (u9 : Unit) => r = (cgS (R 0) (fiF (R 1)) 8) ∧ True) (fun (u9 : Unit) t => va_P D vwCl (cw T ad (upd (upd (pushI I nx ct) 4 0) 5 (I 5 + cgS (R 0) (fiF (R 1)) 8)) (updR (pushR R nx) 0 (fiF (R 1)))) t.heap) (cA 34 ad sz)) 0 0 (cA 34 ad sz) := by
  refine Met.ofW (cc := cX3_fit) (maxL := 4) (ret := (some .int)) (by decide) rfl ?_
  intro p e s m args_ below meth c s₁ B hml hv
  obtain ⟨rfl, hsz, hP, hK, hN⟩ := hv
  have hx := B.exec
  have hb := B.bytes
  have hr := B.returns
  have hts := atoms_spec (ws := wsX3_fit) B.pre
  have hown : s.vm.findClass RX3 = some m.cls := findClass_of_methodNamed B.named
  have hlocks := B.notSynchronized
  have hinX0 : ∀ w ∈ u_ws RX0 TX0 4, w ∈ wsX3_fit := by decide +kernel
  have hinX3 : ∀ w ∈ u_ws RX3 TX3 6, w ∈ wsX3_fit := by decide +kernel
  subst hsz
  have hS : va_S (cA 34 ad s.heap.size) s.heap s.heap [] := va_S.rf
  have hD : ∀ I R, va_D (cA 34 ad s.heap.size) (cw T ad I R) := fun I R => cw_D hAD (fun k hk => cA_in hk)
  have hl := lv_entry ([.ref (ad 0)]) (n := 4) (Nat.le_of_ble_eq_true rfl)
  rw [lg_entry_eq]
  generalize (lg_sl ([.ref (ad 0)]) ++ List.replicate (4 - (lg_sl ([.ref (ad 0)])).length) Slot.unset).toArray = ls at hl ⊢
  have hl : lv_has ls 4 [(0, .ref (ad 0))] := hl
  refine lv_aload_n hx hb dX3_fit_0 rfl (lv_at hl 0 rfl) ?_
  refine va_get (D := D) (ci := 3) (v := .ref (ad 5)) (C := RX3) (T := TX3) (N := 6) hx hb hts hinX3 hown hK hP 0 cw_0 rfl 3 (by decide) (hts (.fieldLink RX3 27 "SquareGears" "saved" "LSquareGears$SavedGears;") (by decide +kernel)) (fun _ h9 => h9) rfl dX3_fit_1 ?_
  refine lv_aload_n hx hb dX3_fit_4 rfl (lv_at hl 0 rfl) ?_
  refine va_get (D := D) (ci := 3) (v := .ref (ad 1)) (C := RX3) (T := TX3) (N := 6) hx hb hts hinX3 hown hK hP 0 cw_0 rfl 0 (by decide) (hts (.fieldLink RX3 12 "SquareGears" "now" "LSquareGears$Gears;") (by decide +kernel)) (fun _ h9 => h9) rfl dX3_fit_5 ?_
  refine cx_wv (va_runVN (As := [.ref (ad 1)]) (rest := []) ⟨hx, hb, hml, hown, hts⟩ (c_X1_push l D T ad I R _ nx ct (hAD) (hnx) (hct) (hI1) (hI2)) ⟨va_cnB 1 hts gX3_fit_X1_push_n62 rfl rfl rfl (nwm_X3_62 hN) (hts (.initialized RX1) (by decide +kernel)) (by decide +kernel) ⟨Nat.le_of_ble_eq_true rfl, Nat.le_of_ble_eq_true rfl⟩, (hts (.instanceMethod yX1_push) (by decide +kernel)), (hts (.selects RX1 yX1_push yX1_push) (by decide +kernel))⟩ ⟨CB.blind, va_recv hK hP (ci := 1) (q0 := 5) rfl cw_5, (CB.pre hP hK hN rfl)⟩ rfl rfl hl.1 rfl (lv_room (Nat.le_of_ble_eq_true rfl)) dX3_fit_8 ⟨Nat.le_of_ble_eq_true rfl, Nat.le_of_ble_eq_true rfl⟩) hS (cA_le hS.1) (cA_le hS.1) (fun u_8 H locs hu_8 hP hkk hS => ?_)
  refine lv_iconst (v := 0) hx hb dX3_fit_11 (by decide) ?_
  refine lv_istore_n (lv' := [(1, .int 0), (0, .ref (ad 0))]) hx hb dX3_fit_12 rfl hl (by decide) rfl (fun ls hl => ?_)
  refine lv_iconst (v := 0) hx hb dX3_fit_13 (by decide) ?_
  refine lv_istore_n (lv' := [(2, .int 0), (1, .int 0), (0, .ref (ad 0))]) hx hb dX3_fit_14 rfl hl (by decide) rfl (fun ls hl => ?_)
  suffices ih_15 : ∀ (fu : Nat) (i : Nat) (f : Nat → Int32) (sn : Int32) (H : Heap) (locs : List Loc) (ls : Array Slot), 8 - i < fu → (i ≤ 8) → (∀ j, j < i → f j = fiF (R 1) j) → (∀ j, i ≤ j → f j = (R 0) j) → (sn = cgS (R 0) (fiF (R 1)) i) → va_P D vwCl (cw T ad (pushI I nx ct) (updR (pushR R nx) 0 f)) H →  va_S (cA 34 ad s.heap.size) s.heap H locs → lv_has ls 4 [(0, .ref (ad 0)), (1, .int sn), (2, .int (nI i))] → W p l e (headSpec wsX3_fit ({ frames := 3, cells := 0, slots := 0, locals := 64 })).room s m ([.ref (ad 0)] : List Value).toArray below meth c H locs 0 0 (MQ below (va_Qi (fun r (u9 : Unit) => r = (cgS (R 0) (fiF (R 1)) 8) ∧ True) (fun (u9 : Unit) t => va_P D vwCl (cw T ad (upd (upd (pushI I nx ct) 4 0) 5 (I 5 + cgS (R 0) (fiF (R 1)) 8)) (updR (pushR R nx) 0 (fiF (R 1)))) t.heap) (cA 34 ad s.heap.size)) ([.ref (ad 0)] : List Value).toArray s 0 0 (cA 34 ad s.heap.size)) (F0 m 15 ls []) from
    ih_15 _ 0 (pushR R nx 0) 0 _ _ _ (Nat.lt_succ_self _) (by omega) (fun j h => absurd h (Nat.not_lt_zero j)) (fun j _ => by rw [pushR_k hnx (by omega)]) (rfl) (self19 hP) hS (lv_sub hl [2, 1, 0] rfl)
  intro fu
  induction fu with
  | zero => intro i f sn H locs ls hfu; exact absurd hfu (Nat.not_lt_zero _)
  | succ fu ih_15 =>
    intro i f sn H locs ls hfu hi hf1 hf2 hs hP hS hl
    refine lv_iload_n hx hb dX3_fit_15 rfl (lv_at hl 2 rfl) ?_
    refine lv_bipush (v := 8) hx hb dX3_fit_16 (by decide) ?_
    refine lv_icmp_ge (tgt := 72) hx hb dX3_fit_18 (by decide) (fun c_18 => ?_) (fun c_18 => ?_)
    · have c_18 : 8 ≤ i := (nI_leI (a := 8) (b := i) (by omega) (by omega)).mp c_18
      obtain rfl : i = 8 := by omega
      have hP := fin_R0 (n := 0) (g := fiF (R 1)) hP hf1
      refine lv_aload_n hx hb dX3_fit_72 rfl (lv_at hl 0 rfl) ?_
      refine va_get (D := D) (ci := 3) (v := .ref (ad 1)) (C := RX3) (T := TX3) (N := 6) hx hb hts hinX3 hown hK hP 0 cw_0 rfl 0 (by decide) (hts (.fieldLink RX3 12 "SquareGears" "now" "LSquareGears$Gears;") (by decide +kernel)) (fun _ h9 => h9) rfl dX3_fit_73 ?_
      refine lv_iconst (v := 0) hx hb dX3_fit_76 (by decide) ?_
      refine cx_putN (D := D) (ci := 0) (v := 0) (ty := .int) (C := RX0) (T := TX0) (N := 4) hx hb hts hinX0 tyX0 tyX0_ok nmX0 hown hK hP (hD _ _) hS 1 cw_1 rfl 2 (by decide) (nw_use rfl (nwf_X3_69 hN)) (fun _ h9 => h9) rfl (by decide +kernel) rfl rfl (Nat.le_of_ble_eq_true rfl) cw_I4 dX3_fit_77 (fun H locs hP hS => ?_)
      refine lv_aload_n hx hb dX3_fit_80 rfl (lv_at hl 0 rfl) ?_
      refine va_get (D := D) (ci := 3) (v := .ref (ad 1)) (C := RX3) (T := TX3) (N := 6) hx hb hts hinX3 hown hK hP 0 cw_0 rfl 0 (by decide) (hts (.fieldLink RX3 12 "SquareGears" "now" "LSquareGears$Gears;") (by decide +kernel)) (fun _ h9 => h9) rfl dX3_fit_81 ?_
      refine lv_dup hx hb dX3_fit_84 rfl ?_
      refine va_getN (D := D) (ci := 0) (v := .int ((pushI I nx ct) 5)) (C := RX0) (T := TX0) (N := 4) hx hb hts hinX0 hown hK hP 1 cw_1 rfl 3 (by decide) (nw_use rfl (nwf_X3_108 hN)) (fun _ h9 => h9) rfl dX3_fit_85 ?_
      refine cx_top (show ((pushI I nx ct) 5) = (I 5) from pushI_5) ?_
      refine lv_iload_n hx hb dX3_fit_88 rfl (lv_at hl 1 rfl) ?_
      refine lv_iadd hx hb dX3_fit_89 ?_
      refine cx_putN (D := D) (ci := 0) (v := ((I 5) + sn)) (ty := .int) (C := RX0) (T := TX0) (N := 4) hx hb hts hinX0 tyX0 tyX0_ok nmX0 hown hK hP (hD _ _) hS 1 cw_1 rfl 3 (by decide) (nw_use rfl (nwf_X3_108 hN)) (fun _ h9 => h9) rfl (by decide +kernel) rfl rfl (Nat.le_of_ble_eq_true rfl) cw_I5 dX3_fit_90 (fun H locs hP hS => ?_)
      refine lv_iload_n hx hb dX3_fit_93 rfl (lv_at hl 1 rfl) ?_
      exact W.iret (v := sn) hx hb hr (fun t ht hW => ⟨⟨sn, (), rfl, ⟨hs, trivial⟩, by show va_P _ _ _ _; rw [ht]; exact (by rw [hs] at hP; exact hP)⟩, hS.F ht⟩) hS.2.2 dX3_fit_94
    · have c_18 : ¬ (8 ≤ i) := fun h => c_18 ((nI_leI (a := 8) (b := i) (by omega) (by omega)).mpr h)
      refine lv_bipush (v := (-99)) hx hb dX3_fit_21 (by decide) ?_
      refine lv_bipush (v := 99) hx hb dX3_fit_23 (by decide) ?_
      refine lv_aload_n hx hb dX3_fit_25 rfl (lv_at hl 0 rfl) ?_
      refine va_get (D := D) (ci := 3) (v := .ref (ad 1)) (C := RX3) (T := TX3) (N := 6) hx hb hts hinX3 hown hK hP 0 cw_0 rfl 0 (by decide) (hts (.fieldLink RX3 12 "SquareGears" "now" "LSquareGears$Gears;") (by decide +kernel)) (fun _ h9 => h9) rfl dX3_fit_26 ?_
      refine lv_iload_n hx hb dX3_fit_29 rfl (lv_at hl 2 rfl) ?_
      refine cx_ri (va_runVN (As := [.int (nI i)]) (rest := [.int 99, .int (-99)]) ⟨hx, hb, hml, hown, hts⟩ (c_X0_patternAmplitude l D T ad (pushI I nx ct) (updR (pushR R nx) 0 f) i (by omega)) ⟨va_cnB 1 hts gX3_fit_X0_patternAmplitude_n99 rfl rfl rfl (nwm_X3_99 hN) (hts (.initialized RX0) (by decide +kernel)) (by decide +kernel) ⟨Nat.le_of_ble_eq_true rfl, Nat.le_of_ble_eq_true rfl⟩, (hts (.instanceMethod yX0_patternAmplitude) (by decide +kernel)), (hts (.selects RX0 yX0_patternAmplitude yX0_patternAmplitude) (by decide +kernel))⟩ ⟨CR.blind, va_recv hK hP (ci := 0) (q0 := 1) rfl cw_1, (CR.pre hP hK hN rfl)⟩ rfl rfl hl.1 rfl (lv_room (Nat.le_of_ble_eq_true rfl)) dX3_fit_30 ⟨Nat.le_of_ble_eq_true rfl, Nat.le_of_ble_eq_true rfl⟩) hS hP (fun H locs hP hS => ?_)
      refine cx_top (show (psS (((pushR R nx) 1)) i 8 >>> (3 : Int32)) = (psS (R 1) i 8 >>> (3 : Int32)) from by show psS (pushR R nx 1) i 8 >>> (3 : Int32) = _; rw [pushR_k hnx (by omega)]) ?_
      refine va_mmin hx hb (hml.trans hl.1.symm) hown (hts (.methodLink RX3 102 Lib.Math.min.name) (by decide +kernel)) (hts (.static Lib.Math.min.name) (by decide +kernel)) (hts (.initialized "java/lang/Math") (by decide +kernel)) (hts (.code Lib.Math.min.name Lib.Math.min.code 2 (some .int)) (by decide +kernel)) (Nat.le_of_ble_eq_true rfl) (Nat.le_of_ble_eq_true rfl) (Nat.zero_le _) (Nat.zero_le _) dX3_fit_33 ?_
      refine va_mmax hx hb (hml.trans hl.1.symm) hown (hts (.methodLink RX3 105 Lib.Math.max.name) (by decide +kernel)) (hts (.static Lib.Math.max.name) (by decide +kernel)) (hts (.initialized "java/lang/Math") (by decide +kernel)) (hts (.code Lib.Math.max.name Lib.Math.max.code 2 (some .int)) (by decide +kernel)) (Nat.le_of_ble_eq_true rfl) (Nat.le_of_ble_eq_true rfl) (Nat.zero_le _) (Nat.zero_le _) dX3_fit_36 ?_
      refine cx_top (show (if (-99) < (if (psS (R 1) i 8 >>> (3 : Int32)) < 99 then (psS (R 1) i 8 >>> (3 : Int32)) else 99) then (if (psS (R 1) i 8 >>> (3 : Int32)) < 99 then (psS (R 1) i 8 >>> (3 : Int32)) else 99) else (-99)) = (fiF (R 1) i) from rfl) ?_
      refine lv_istore_n (lv' := [(3, .int (fiF (R 1) i)), (0, .ref (ad 0)), (1, .int sn), (2, .int (nI i))]) hx hb dX3_fit_39 rfl hl (by decide) rfl (fun ls hl => ?_)
      refine lv_aload_n hx hb dX3_fit_40 rfl (lv_at hl 1 rfl) ?_
      refine va_get (D := D) (ci := 3) (v := .ref (ad 1)) (C := RX3) (T := TX3) (N := 6) hx hb hts hinX3 hown hK hP 0 cw_0 rfl 0 (by decide) (hts (.fieldLink RX3 12 "SquareGears" "now" "LSquareGears$Gears;") (by decide +kernel)) (fun _ h9 => h9) rfl dX3_fit_41 ?_
      refine va_getN (D := D) (ci := 0) (v := .ref (ad 2)) (C := RX0) (T := TX0) (N := 4) hx hb hts hinX0 hown hK hP 1 cw_1 rfl 0 (by decide) (nw_use rfl (nwf_X3_66 hN)) (fun _ h9 => h9) rfl dX3_fit_44 ?_
      refine lv_iload_n hx hb dX3_fit_47 rfl (lv_at hl 3 rfl) ?_
      refine cx_iald (k := i) hx hb hK hP 2 1 cw_2 rfl (by omega) (by decide) dX3_fit_48 ?_
      refine lv_iload_n hx hb dX3_fit_49 rfl (lv_at hl 0 rfl) ?_
      refine lv_icmp_eq (tgt := 66) hx hb dX3_fit_50 (by decide) (fun c_50 => ?_) (fun c_50 => ?_)
      · refine lv_iinc (k := 3) (v := (nI (i + 1))) (lv' := [(2, .int (nI (i + 1))), (3, .int (fiF (R 1) i)), (0, .ref (ad 0)), (1, .int sn)]) hx hb dX3_fit_66 hl rfl (nI_add i 1) (by decide) rfl (fun ls hl => ?_)
        refine lv_goto (tgt := 15) hx hb dX3_fit_69 (by decide) ?_
        exact ih_15 (i + 1) f sn _ _ _ (by omega) (by omega) (by first | exact st_up hf1 c_50 | exact up_at hf1 rfl) (by first | exact un_st hf2 | exact un_up hf2) (by first | exact cg_a hs (hf2 i (by omega)) c_50 | exact cg_c hs (hf2 i (by omega)) c_50) (by first | exact hP | exact upd19 hP) hS (lv_sub hl [2, 3, 0] rfl)
      · refine lv_aload_n hx hb dX3_fit_53 rfl (lv_at hl 1 rfl) ?_
        refine va_get (D := D) (ci := 3) (v := .ref (ad 1)) (C := RX3) (T := TX3) (N := 6) hx hb hts hinX3 hown hK hP 0 cw_0 rfl 0 (by decide) (hts (.fieldLink RX3 12 "SquareGears" "now" "LSquareGears$Gears;") (by decide +kernel)) (fun _ h9 => h9) rfl dX3_fit_54 ?_
        refine va_getN (D := D) (ci := 0) (v := .ref (ad 2)) (C := RX0) (T := TX0) (N := 4) hx hb hts hinX0 hown hK hP 1 cw_1 rfl 0 (by decide) (nw_use rfl (nwf_X3_66 hN)) (fun _ h9 => h9) rfl dX3_fit_57 ?_
        refine lv_iload_n hx hb dX3_fit_60 rfl (lv_at hl 3 rfl) ?_
        refine lv_iload_n hx hb dX3_fit_61 rfl (lv_at hl 0 rfl) ?_
        refine cx_iast (k := i) hx hb hK hP (hD _ _) hS 2 1 cw_2 rfl (by omega) (by decide) cw_R0 dX3_fit_62 (fun H locs hP hS => ?_)
        refine lv_iinc (k := 2) (v := (sn + 1)) (lv' := [(1, .int (sn + 1)), (3, .int (fiF (R 1) i)), (0, .ref (ad 0)), (2, .int (nI i))]) hx hb dX3_fit_63 hl rfl rfl (by decide) rfl (fun ls hl => ?_)
        refine lv_iinc (k := 3) (v := (nI (i + 1))) (lv' := [(2, .int (nI (i + 1))), (1, .int (sn + 1)), (3, .int (fiF (R 1) i)), (0, .ref (ad 0))]) hx hb dX3_fit_66 hl rfl (nI_add i 1) (by decide) rfl (fun ls hl => ?_)
        refine lv_goto (tgt := 15) hx hb dX3_fit_69 (by decide) ?_
        exact ih_15 (i + 1) (upd f i (fiF (R 1) i)) (sn + 1) _ _ _ (by omega) (by omega) (by first | exact st_up hf1 c_50 | exact up_at hf1 rfl) (by first | exact un_st hf2 | exact un_up hf2) (by first | exact cg_a hs (hf2 i (by omega)) c_50 | exact cg_c hs (hf2 i (by omega)) c_50) (by first | exact hP | exact upd19 hP) hS (lv_sub hl [3, 1, 0] rfl)
set_option maxHeartbeats 4000000 in
set_option maxRecDepth 100000 in
theorem c_X3_undo (l : Launch) (D : va_G) (T : Nat → ClassId) (ad : Nat → Nat) (I : Nat → Int32) (R : Nat → Nat → Int32) (sz : Nat) (nx : Nat) (ct : Nat) (hAD : AD 34 ad) (hnx : nx < 6) (hct : ct ≤ 6) (hI1 : I 1 = nI nx) (hI2 : I 2 = nI ct) (hct0 : 0 < ct) : Met l yX3_undo wsX3_undo ({ frames := 3, cells := 0, slots := 0, locals := 60 }) (va_Pc [.ref (ad 0)] (CB D T ad I R sz)) (va_Qi (fun r (u9 : Unit) => r = (nI (ct - 1)) ∧ True) (fun (u9 : Unit) t => va_P D vwCl (cw T ad (popI I nx ct) (popR R nx)) t.heap) (cA 34 ad sz)) 0 0 (cA 34 ad sz) := by
  refine Met.ofW (cc := cX3_undo) (maxL := 1) (ret := (some .int)) (by decide) rfl ?_
  intro p e s m args_ below meth c s₁ B hml hv
  obtain ⟨rfl, hsz, hP, hK, hN⟩ := hv
  have hx := B.exec
  have hb := B.bytes
  have hr := B.returns
  have hts := atoms_spec (ws := wsX3_undo) B.pre
  have hown : s.vm.findClass RX3 = some m.cls := findClass_of_methodNamed B.named
  have hlocks := B.notSynchronized
  have hinX1 : ∀ w ∈ u_ws RX1 TX1 3, w ∈ wsX3_undo := by decide +kernel
  have hinX3 : ∀ w ∈ u_ws RX3 TX3 6, w ∈ wsX3_undo := by decide +kernel
  subst hsz
  have hS : va_S (cA 34 ad s.heap.size) s.heap s.heap [] := va_S.rf
  have hD : ∀ I R, va_D (cA 34 ad s.heap.size) (cw T ad I R) := fun I R => cw_D hAD (fun k hk => cA_in hk)
  have hl := lv_entry ([.ref (ad 0)]) (n := 1) (Nat.le_of_ble_eq_true rfl)
  rw [lg_entry_eq]
  generalize (lg_sl ([.ref (ad 0)]) ++ List.replicate (1 - (lg_sl ([.ref (ad 0)])).length) Slot.unset).toArray = ls at hl ⊢
  have hl : lv_has ls 1 [(0, .ref (ad 0))] := hl
  refine lv_aload_n hx hb dX3_undo_0 rfl (lv_at hl 0 rfl) ?_
  refine va_get (D := D) (ci := 3) (v := .ref (ad 5)) (C := RX3) (T := TX3) (N := 6) hx hb hts hinX3 hown hK hP 0 cw_0 rfl 3 (by decide) (hts (.fieldLink RX3 27 "SquareGears" "saved" "LSquareGears$SavedGears;") (by decide +kernel)) (fun _ h9 => h9) rfl dX3_undo_1 ?_
  refine va_getN (D := D) (ci := 1) (v := .int (I 2)) (C := RX1) (T := TX1) (N := 3) hx hb hts hinX1 hown hK hP 5 cw_5 rfl 2 (by decide) (nw_use rfl (nwf_X3_157 hN)) (fun _ h9 => h9) rfl dX3_undo_4 ?_
  refine cx_top (show (I 2) = (nI ct) from hI2) ?_
  refine lv_if_ne (tgt := 20) hx hb dX3_undo_7 (by decide) (fun c_7 => ?_) (fun c_7 => ?_)
  · have c_7 : ¬ (ct = 0) := fun h => c_7 ((nI_eq (a := ct) (b := 0) (by omega) (by omega)).mpr h)
    refine lv_aload_n hx hb dX3_undo_20 rfl (lv_at hl 0 rfl) ?_
    refine va_get (D := D) (ci := 3) (v := .ref (ad 5)) (C := RX3) (T := TX3) (N := 6) hx hb hts hinX3 hown hK hP 0 cw_0 rfl 3 (by decide) (hts (.fieldLink RX3 27 "SquareGears" "saved" "LSquareGears$SavedGears;") (by decide +kernel)) (fun _ h9 => h9) rfl dX3_undo_21 ?_
    refine lv_aload_n hx hb dX3_undo_24 rfl (lv_at hl 0 rfl) ?_
    refine va_get (D := D) (ci := 3) (v := .ref (ad 1)) (C := RX3) (T := TX3) (N := 6) hx hb hts hinX3 hown hK hP 0 cw_0 rfl 0 (by decide) (hts (.fieldLink RX3 12 "SquareGears" "now" "LSquareGears$Gears;") (by decide +kernel)) (fun _ h9 => h9) rfl dX3_undo_25 ?_
    refine cx_wv (va_runVN (As := [.ref (ad 1)]) (rest := []) ⟨hx, hb, hml, hown, hts⟩ (c_X1_popInto l D T ad I R _ nx ct (hAD) (hnx) (hct) (hI1) (hI2) (hct0)) ⟨va_cnB 1 hts gX3_undo_X1_popInto_n162 rfl rfl rfl (nwm_X3_162 hN) (hts (.initialized RX1) (by decide +kernel)) (by decide +kernel) ⟨Nat.le_of_ble_eq_true rfl, Nat.le_of_ble_eq_true rfl⟩, (hts (.instanceMethod yX1_popInto) (by decide +kernel)), (hts (.selects RX1 yX1_popInto yX1_popInto) (by decide +kernel))⟩ ⟨CB.blind, va_recv hK hP (ci := 1) (q0 := 5) rfl cw_5, (CB.pre hP hK hN rfl)⟩ rfl rfl hl.1 rfl (lv_room (Nat.le_of_ble_eq_true rfl)) dX3_undo_28 ⟨Nat.le_of_ble_eq_true rfl, Nat.le_of_ble_eq_true rfl⟩) hS (cA_le hS.1) (cA_le hS.1) (fun u_28 H locs hu_28 hP hkk hS => ?_)
    refine lv_aload_n hx hb dX3_undo_31 rfl (lv_at hl 0 rfl) ?_
    refine va_get (D := D) (ci := 3) (v := .ref (ad 5)) (C := RX3) (T := TX3) (N := 6) hx hb hts hinX3 hown hK hP 0 cw_0 rfl 3 (by decide) (hts (.fieldLink RX3 27 "SquareGears" "saved" "LSquareGears$SavedGears;") (by decide +kernel)) (fun _ h9 => h9) rfl dX3_undo_32 ?_
    refine va_getN (D := D) (ci := 1) (v := .int ((popI I nx ct) 2)) (C := RX1) (T := TX1) (N := 3) hx hb hts hinX1 hown hK hP 5 cw_5 rfl 2 (by decide) (nw_use rfl (nwf_X3_157 hN)) (fun _ h9 => h9) rfl dX3_undo_35 ?_
    refine cx_top (show ((popI I nx ct) 2) = (nI (ct - 1)) from popI_2) ?_
    exact W.iret (v := (nI (ct - 1))) hx hb hr (fun t ht hW => ⟨⟨(nI (ct - 1)), (), rfl, ⟨rfl, trivial⟩, by show va_P _ _ _ _; rw [ht]; exact hP⟩, hS.F ht⟩) hS.2.2 dX3_undo_38
  · have c_7 : ct = 0 := (nI_eq (a := ct) (b := 0) (by omega) (by omega)).mp c_7
    exact absurd c_7 (by omega)

theorem updI3 {D : va_G} {T : Nat → ClassId} {ad : Nat → Nat} {I : Nat → Int32} {R : Nat → Nat → Int32} {k : Nat} {x y : Int32} {H : Heap} (h : va_P D vwCl (cw T ad (upd (upd I k x) k y) R) H) : va_P D vwCl (cw T ad (upd I k y) R) H := by rw [upd_upd] at h; exact h
set_option maxHeartbeats 4000000 in
set_option maxRecDepth 100000 in
theorem c_X0_takeFrom (l : Launch) (D : va_G) (T : Nat → ClassId) (ad : Nat → Nat) (I : Nat → Int32) (R : Nat → Nat → Int32) (sz : Nat) (hAD : AD 6 ad) : Met l yX0_takeFrom wsX0_takeFrom ({ frames := 1, cells := 0, slots := 0, locals := 18 }) (va_Pc [.ref (ad 0), .ref (ad 3)] (GB D T ad I R sz)) (va_Qv (fun (u9 : Unit) => True) (fun (u9 : Unit) t => va_P D vwCl (gw T ad (upd (upd I 0 (I 2)) 1 (I 3)) (updR (updR R 0 (R 2)) 1 (R 3))) t.heap) (cA 6 ad sz)) 0 0 (cA 6 ad sz) := by
  refine Met.ofW (cc := cX0_takeFrom) (maxL := 2) (ret := none) (by decide) rfl ?_
  intro p e s m args_ below meth c s₁ B hml hv
  obtain ⟨rfl, hsz, hP, hK⟩ := hv
  have hx := B.exec
  have hb := B.bytes
  have hr := B.returns
  have hts := atoms_spec (ws := wsX0_takeFrom) B.pre
  have hown : s.vm.findClass RX0 = some m.cls := findClass_of_methodNamed B.named
  have hlocks := B.notSynchronized
  have hinX0 : ∀ w ∈ u_ws RX0 TX0 4, w ∈ wsX0_takeFrom := by decide +kernel
  subst hsz
  have hS : va_S (cA 6 ad s.heap.size) s.heap s.heap [] := va_S.rf
  have hD : ∀ I R, va_D (cA 6 ad s.heap.size) (gw T ad I R) := fun I R => gw_D hAD (fun k hk => cA_in hk)
  have hl := lv_entry ([.ref (ad 0), .ref (ad 3)]) (n := 2) (Nat.le_of_ble_eq_true rfl)
  rw [lg_entry_eq]
  generalize (lg_sl ([.ref (ad 0), .ref (ad 3)]) ++ List.replicate (2 - (lg_sl ([.ref (ad 0), .ref (ad 3)])).length) Slot.unset).toArray = ls at hl ⊢
  have hl : lv_has ls 2 [(0, .ref (ad 0)), (1, .ref (ad 3))] := hl
  refine lv_aload_n hx hb dX0_takeFrom_0 rfl (lv_at hl 1 rfl) ?_
  refine va_get (D := D) (ci := 0) (v := .ref (ad 4)) (C := RX0) (T := TX0) (N := 4) hx hb hts hinX0 hown hK hP 3 gw_3 rfl 0 (by decide) (hts (.fieldLink RX0 9 "SquareGears$Gears" "amplitudes" "[I") (by decide +kernel)) (fun _ h9 => h9) rfl dX0_takeFrom_1 ?_
  refine lv_iconst (v := 0) hx hb dX0_takeFrom_4 (by decide) ?_
  refine lv_aload_n hx hb dX0_takeFrom_5 rfl (lv_at hl 0 rfl) ?_
  refine va_get (D := D) (ci := 0) (v := .ref (ad 1)) (C := RX0) (T := TX0) (N := 4) hx hb hts hinX0 hown hK hP 0 gw_0 rfl 0 (by decide) (hts (.fieldLink RX0 9 "SquareGears$Gears" "amplitudes" "[I") (by decide +kernel)) (fun _ h9 => h9) rfl dX0_takeFrom_6 ?_
  refine lv_iconst (v := 0) hx hb dX0_takeFrom_9 (by decide) ?_
  refine lv_bipush (v := 8) hx hb dX0_takeFrom_10 (by decide) ?_
  refine cx_copy hx hb (hml.trans hl.1.symm) hown (hts (.methodLink RX0 25 arraycopyName) (by decide +kernel)) (hts (.native arraycopyName) (by decide +kernel)) (hts (.static arraycopyName) (by decide +kernel)) (hts (.initialized "java/lang/System") (by decide +kernel)) hK hP (hD _ _) hS 4 1 1 gw_4 gw_1 rfl gw_R0 (Nat.le_of_ble_eq_true rfl) (Nat.le_of_ble_eq_true rfl) dX0_takeFrom_12 (fun H locs hP hS => ?_)
  refine lv_aload_n hx hb dX0_takeFrom_15 rfl (lv_at hl 1 rfl) ?_
  refine va_get (D := D) (ci := 0) (v := .ref (ad 5)) (C := RX0) (T := TX0) (N := 4) hx hb hts hinX0 hown hK hP 3 gw_3 rfl 1 (by decide) (hts (.fieldLink RX0 15 "SquareGears$Gears" "pattern" "[I") (by decide +kernel)) (fun _ h9 => h9) rfl dX0_takeFrom_16 ?_
  refine lv_iconst (v := 0) hx hb dX0_takeFrom_19 (by decide) ?_
  refine lv_aload_n hx hb dX0_takeFrom_20 rfl (lv_at hl 0 rfl) ?_
  refine va_get (D := D) (ci := 0) (v := .ref (ad 2)) (C := RX0) (T := TX0) (N := 4) hx hb hts hinX0 hown hK hP 0 gw_0 rfl 1 (by decide) (hts (.fieldLink RX0 15 "SquareGears$Gears" "pattern" "[I") (by decide +kernel)) (fun _ h9 => h9) rfl dX0_takeFrom_21 ?_
  refine lv_iconst (v := 0) hx hb dX0_takeFrom_24 (by decide) ?_
  refine lv_bipush (v := 8) hx hb dX0_takeFrom_25 (by decide) ?_
  refine cx_copy hx hb (hml.trans hl.1.symm) hown (hts (.methodLink RX0 25 arraycopyName) (by decide +kernel)) (hts (.native arraycopyName) (by decide +kernel)) (hts (.static arraycopyName) (by decide +kernel)) (hts (.initialized "java/lang/System") (by decide +kernel)) hK hP (hD _ _) hS 5 2 1 gw_5 gw_2 rfl gw_R1 (Nat.le_of_ble_eq_true rfl) (Nat.le_of_ble_eq_true rfl) dX0_takeFrom_27 (fun H locs hP hS => ?_)
  refine lv_aload_n hx hb dX0_takeFrom_30 rfl (lv_at hl 0 rfl) ?_
  refine lv_aload_n hx hb dX0_takeFrom_31 rfl (lv_at hl 1 rfl) ?_
  refine va_get (D := D) (ci := 0) (v := .int (I 2)) (C := RX0) (T := TX0) (N := 4) hx hb hts hinX0 hown hK hP 3 gw_3 rfl 2 (by decide) (hts (.fieldLink RX0 18 "SquareGears$Gears" "lostWheels" "I") (by decide +kernel)) (fun _ h9 => h9) rfl dX0_takeFrom_32 ?_
  refine cx_put (D := D) (ci := 0) (v := (I 2)) (ty := .int) (C := RX0) (T := TX0) (N := 4) hx hb hts hinX0 tyX0 tyX0_ok nmX0 hown hK hP (hD _ _) hS 0 gw_0 rfl 2 (by decide) (hts (.fieldLink RX0 18 "SquareGears$Gears" "lostWheels" "I") (by decide +kernel)) (fun _ h9 => h9) rfl (by decide +kernel) rfl rfl (Nat.le_of_ble_eq_true rfl) gw_I0 dX0_takeFrom_35 (fun H locs hP hS => ?_)
  refine lv_aload_n hx hb dX0_takeFrom_38 rfl (lv_at hl 0 rfl) ?_
  refine lv_aload_n hx hb dX0_takeFrom_39 rfl (lv_at hl 1 rfl) ?_
  refine va_get (D := D) (ci := 0) (v := .int (I 3)) (C := RX0) (T := TX0) (N := 4) hx hb hts hinX0 hown hK hP 3 gw_3 rfl 3 (by decide) (hts (.fieldLink RX0 22 "SquareGears$Gears" "changedByFits" "I") (by decide +kernel)) (fun _ h9 => h9) rfl dX0_takeFrom_40 ?_
  refine cx_put (D := D) (ci := 0) (v := (I 3)) (ty := .int) (C := RX0) (T := TX0) (N := 4) hx hb hts hinX0 tyX0 tyX0_ok nmX0 hown hK hP (hD _ _) hS 0 gw_0 rfl 3 (by decide) (hts (.fieldLink RX0 22 "SquareGears$Gears" "changedByFits" "I") (by decide +kernel)) (fun _ h9 => h9) rfl (by decide +kernel) rfl rfl (Nat.le_of_ble_eq_true rfl) gw_I1 dX0_takeFrom_43 (fun H locs hP hS => ?_)
  exact W.vret hx hb hr (fun t ht hW => ⟨⟨(), rfl, trivial, by show va_P _ _ _ _; rw [ht]; exact hP⟩, hS.F ht⟩) hS.2.2 dX0_takeFrom_46
set_option maxHeartbeats 4000000 in
set_option maxRecDepth 100000 in
theorem c_X1_push (l : Launch) (D : va_G) (T : Nat → ClassId) (ad : Nat → Nat) (I : Nat → Int32) (R : Nat → Nat → Int32) (sz : Nat) (nx : Nat) (ct : Nat) (hAD : AD 34 ad) (hnx : nx < 6) (hct : ct ≤ 6) (hI1 : I 1 = nI nx) (hI2 : I 2 = nI ct) : Met l yX1_push wsX1_push ({ frames := 2, cells := 0, slots := 0, locals := 39 }) (va_Pc [.ref (ad 5), .ref (ad 1)] (CB D T ad I R sz)) (va_Qv (fun (u9 : Unit) => True) (fun (u9 : Unit) t => va_P D vwCl (cw T ad (pushI I nx ct) (pushR R nx)) t.heap) (cA 34 ad sz)) 0 0 (cA 34 ad sz) := by
  refine Met.ofW (cc := cX1_push) (maxL := 2) (ret := none) (by decide) rfl ?_
  intro p e s m args_ below meth c s₁ B hml hv
  obtain ⟨rfl, hsz, hP, hK, hN⟩ := hv
  have hx := B.exec
  have hb := B.bytes
  have hr := B.returns
  have hts := atoms_spec (ws := wsX1_push) B.pre
  have hown : s.vm.findClass RX1 = some m.cls := findClass_of_methodNamed B.named
  have hlocks := B.notSynchronized
  have hinX1 : ∀ w ∈ u_ws RX1 TX1 3, w ∈ wsX1_push := by decide +kernel
  subst hsz
  have hS : va_S (cA 34 ad s.heap.size) s.heap s.heap [] := va_S.rf
  have hD : ∀ I R, va_D (cA 34 ad s.heap.size) (cw T ad I R) := fun I R => cw_D hAD (fun k hk => cA_in hk)
  have hl := lv_entry ([.ref (ad 5), .ref (ad 1)]) (n := 2) (Nat.le_of_ble_eq_true rfl)
  rw [lg_entry_eq]
  generalize (lg_sl ([.ref (ad 5), .ref (ad 1)]) ++ List.replicate (2 - (lg_sl ([.ref (ad 5), .ref (ad 1)])).length) Slot.unset).toArray = ls at hl ⊢
  have hl : lv_has ls 2 [(0, .ref (ad 5)), (1, .ref (ad 1))] := hl
  refine lv_aload_n hx hb dX1_push_0 rfl (lv_at hl 0 rfl) ?_
  refine va_get (D := D) (ci := 1) (v := .ref (ad 6)) (C := RX1) (T := TX1) (N := 3) hx hb hts hinX1 hown hK hP 5 cw_5 rfl 0 (by decide) (hts (.fieldLink RX1 11 "SquareGears$SavedGears" "ring" "[LSquareGears$Gears;") (by decide +kernel)) (fun _ h9 => h9) rfl dX1_push_1 ?_
  refine lv_aload_n hx hb dX1_push_4 rfl (lv_at hl 0 rfl) ?_
  refine va_get (D := D) (ci := 1) (v := .int (I 1)) (C := RX1) (T := TX1) (N := 3) hx hb hts hinX1 hown hK hP 5 cw_5 rfl 1 (by decide) (hts (.fieldLink RX1 15 "SquareGears$SavedGears" "next" "I") (by decide +kernel)) (fun _ h9 => h9) rfl dX1_push_5 ?_
  refine cx_top (show (I 1) = (nI nx) from hI1) ?_
  refine cx_aldq (k := nx) hx hb hK hP 6 3 cw_6 rfl (by omega) (by decide) dX1_push_8 rfl ?_
  refine lv_aload_n hx hb dX1_push_9 rfl (lv_at hl 1 rfl) ?_
  rcases (show nx = 0 ∨ nx = 1 ∨ nx = 2 ∨ nx = 3 ∨ nx = 4 ∨ nx = 5 by omega) with rfl | rfl | rfl | rfl | rfl | rfl
  · have hG := tk_of_1_0 hP
    refine cx_wv (va_runVN (As := [.ref (adp ad 10 1 3)]) (rest := []) (b := adp ad 10 1 0) ⟨hx, hb, hml, hown, hts⟩ (c_X0_takeFrom l D T (adp ad 10 1) (gwI I 1 0) (gwR R 1 0) _ (adp_AD hAD (by decide) (by decide) (by decide))) ⟨va_cnB 1 hts gX1_push_X0_takeFrom_n23 rfl rfl rfl (nwm_X1_23 hN) (hts (.initialized RX0) (by decide +kernel)) (by decide +kernel) ⟨Nat.le_of_ble_eq_true rfl, Nat.le_of_ble_eq_true rfl⟩, (hts (.instanceMethod yX0_takeFrom) (by decide +kernel)), (hts (.selects RX0 yX0_takeFrom yX0_takeFrom) (by decide +kernel))⟩ ⟨GB.blind, va_recv hK hG (ci := 0) (q0 := 0) rfl gw_0, GB.pre hG hK rfl⟩ rfl rfl hl.1 rfl (lv_room (Nat.le_of_ble_eq_true rfl)) dX1_push_10 ⟨Nat.le_of_ble_eq_true rfl, Nat.le_of_ble_eq_true rfl⟩) hS (fun q h => cA_le hS.1 q (adp_34 (by decide) (by decide) q h)) (fun q h => cA_le hS.1 q (adp_34 (by decide) (by decide) q h)) (fun _ H locs _ hP1 hkk hS => ?_)
    have hP := tk_1_0 hAD hP hkk hP1
    refine lv_aload_n hx hb dX1_push_13 rfl (lv_at hl 0 rfl) ?_
    refine lv_aload_n hx hb dX1_push_14 rfl (lv_at hl 0 rfl) ?_
    refine va_get (D := D) (ci := 1) (v := .int ((tkI I 1 0) 1)) (C := RX1) (T := TX1) (N := 3) hx hb hts hinX1 hown hK hP 5 cw_5 rfl 1 (by decide) (hts (.fieldLink RX1 15 "SquareGears$SavedGears" "next" "I") (by decide +kernel)) (fun _ h9 => h9) rfl dX1_push_15 ?_
    refine cx_top (show ((tkI I 1 0) 1) = (nI 0) from hI1) ?_
    refine lv_iconst (v := 1) hx hb dX1_push_18 (by decide) ?_
    refine lv_iadd hx hb dX1_push_19 ?_
    refine cx_top (y := 1) (by decide) ?_
    refine lv_bipush (v := 6) hx hb dX1_push_20 (by decide) ?_
    refine lv_irem hx hb dX1_push_22 (by decide) ?_
    refine cx_top (y := 1) (by decide) ?_
    refine cx_put (D := D) (ci := 1) (v := 1) (ty := .int) (C := RX1) (T := TX1) (N := 3) hx hb hts hinX1 tyX1 tyX1_ok nmX1 hown hK hP (hD _ _) hS 5 cw_5 rfl 1 (by decide) (hts (.fieldLink RX1 15 "SquareGears$SavedGears" "next" "I") (by decide +kernel)) (fun _ h9 => h9) rfl (by decide +kernel) rfl rfl (Nat.le_of_ble_eq_true rfl) cw_I1 dX1_push_23 (fun H locs hP hS => ?_)
    refine lv_aload_n hx hb dX1_push_26 rfl (lv_at hl 0 rfl) ?_
    refine lv_aload_n hx hb dX1_push_27 rfl (lv_at hl 0 rfl) ?_
    refine va_get (D := D) (ci := 1) (v := .int ((tkI I 1 0) 2)) (C := RX1) (T := TX1) (N := 3) hx hb hts hinX1 hown hK hP 5 cw_5 rfl 2 (by decide) (hts (.fieldLink RX1 19 "SquareGears$SavedGears" "count" "I") (by decide +kernel)) (fun _ h9 => h9) rfl dX1_push_28 ?_
    refine cx_top (show ((tkI I 1 0) 2) = (nI ct) from hI2) ?_
    refine lv_iconst (v := 1) hx hb dX1_push_31 (by decide) ?_
    refine lv_iadd hx hb dX1_push_32 ?_
    refine cx_top (nI_add ct 1) ?_
    refine lv_bipush (v := 6) hx hb dX1_push_33 (by decide) ?_
    refine va_mmin hx hb (hml.trans hl.1.symm) hown (hts (.methodLink RX1 27 Lib.Math.min.name) (by decide +kernel)) (hts (.static Lib.Math.min.name) (by decide +kernel)) (hts (.initialized "java/lang/Math") (by decide +kernel)) (hts (.code Lib.Math.min.name Lib.Math.min.code 2 (some .int)) (by decide +kernel)) (Nat.le_of_ble_eq_true rfl) (Nat.le_of_ble_eq_true rfl) (Nat.zero_le _) (Nat.zero_le _) dX1_push_35 ?_
    refine cx_top (show (if 6 < (nI (ct + 1)) then 6 else (nI (ct + 1))) = (nI (min (ct + 1) 6)) from min6 (by omega)) ?_
    refine cx_put (D := D) (ci := 1) (v := (nI (min (ct + 1) 6))) (ty := .int) (C := RX1) (T := TX1) (N := 3) hx hb hts hinX1 tyX1 tyX1_ok nmX1 hown hK hP (hD _ _) hS 5 cw_5 rfl 2 (by decide) (hts (.fieldLink RX1 19 "SquareGears$SavedGears" "count" "I") (by decide +kernel)) (fun _ h9 => h9) rfl (by decide +kernel) rfl rfl (Nat.le_of_ble_eq_true rfl) cw_I2 dX1_push_38 (fun H locs hP hS => ?_)
    exact W.vret hx hb hr (fun t ht hW => ⟨⟨(), rfl, trivial, by show va_P _ _ _ _; rw [ht]; exact hP⟩, hS.F ht⟩) hS.2.2 dX1_push_41
  · have hG := tk_of_2_0 hP
    refine cx_wv (va_runVN (As := [.ref (adp ad 13 1 3)]) (rest := []) (b := adp ad 13 1 0) ⟨hx, hb, hml, hown, hts⟩ (c_X0_takeFrom l D T (adp ad 13 1) (gwI I 2 0) (gwR R 2 0) _ (adp_AD hAD (by decide) (by decide) (by decide))) ⟨va_cnB 1 hts gX1_push_X0_takeFrom_n23 rfl rfl rfl (nwm_X1_23 hN) (hts (.initialized RX0) (by decide +kernel)) (by decide +kernel) ⟨Nat.le_of_ble_eq_true rfl, Nat.le_of_ble_eq_true rfl⟩, (hts (.instanceMethod yX0_takeFrom) (by decide +kernel)), (hts (.selects RX0 yX0_takeFrom yX0_takeFrom) (by decide +kernel))⟩ ⟨GB.blind, va_recv hK hG (ci := 0) (q0 := 0) rfl gw_0, GB.pre hG hK rfl⟩ rfl rfl hl.1 rfl (lv_room (Nat.le_of_ble_eq_true rfl)) dX1_push_10 ⟨Nat.le_of_ble_eq_true rfl, Nat.le_of_ble_eq_true rfl⟩) hS (fun q h => cA_le hS.1 q (adp_34 (by decide) (by decide) q h)) (fun q h => cA_le hS.1 q (adp_34 (by decide) (by decide) q h)) (fun _ H locs _ hP1 hkk hS => ?_)
    have hP := tk_2_0 hAD hP hkk hP1
    refine lv_aload_n hx hb dX1_push_13 rfl (lv_at hl 0 rfl) ?_
    refine lv_aload_n hx hb dX1_push_14 rfl (lv_at hl 0 rfl) ?_
    refine va_get (D := D) (ci := 1) (v := .int ((tkI I 2 0) 1)) (C := RX1) (T := TX1) (N := 3) hx hb hts hinX1 hown hK hP 5 cw_5 rfl 1 (by decide) (hts (.fieldLink RX1 15 "SquareGears$SavedGears" "next" "I") (by decide +kernel)) (fun _ h9 => h9) rfl dX1_push_15 ?_
    refine cx_top (show ((tkI I 2 0) 1) = (nI 1) from hI1) ?_
    refine lv_iconst (v := 1) hx hb dX1_push_18 (by decide) ?_
    refine lv_iadd hx hb dX1_push_19 ?_
    refine cx_top (y := 2) (by decide) ?_
    refine lv_bipush (v := 6) hx hb dX1_push_20 (by decide) ?_
    refine lv_irem hx hb dX1_push_22 (by decide) ?_
    refine cx_top (y := 2) (by decide) ?_
    refine cx_put (D := D) (ci := 1) (v := 2) (ty := .int) (C := RX1) (T := TX1) (N := 3) hx hb hts hinX1 tyX1 tyX1_ok nmX1 hown hK hP (hD _ _) hS 5 cw_5 rfl 1 (by decide) (hts (.fieldLink RX1 15 "SquareGears$SavedGears" "next" "I") (by decide +kernel)) (fun _ h9 => h9) rfl (by decide +kernel) rfl rfl (Nat.le_of_ble_eq_true rfl) cw_I1 dX1_push_23 (fun H locs hP hS => ?_)
    refine lv_aload_n hx hb dX1_push_26 rfl (lv_at hl 0 rfl) ?_
    refine lv_aload_n hx hb dX1_push_27 rfl (lv_at hl 0 rfl) ?_
    refine va_get (D := D) (ci := 1) (v := .int ((tkI I 2 0) 2)) (C := RX1) (T := TX1) (N := 3) hx hb hts hinX1 hown hK hP 5 cw_5 rfl 2 (by decide) (hts (.fieldLink RX1 19 "SquareGears$SavedGears" "count" "I") (by decide +kernel)) (fun _ h9 => h9) rfl dX1_push_28 ?_
    refine cx_top (show ((tkI I 2 0) 2) = (nI ct) from hI2) ?_
    refine lv_iconst (v := 1) hx hb dX1_push_31 (by decide) ?_
    refine lv_iadd hx hb dX1_push_32 ?_
    refine cx_top (nI_add ct 1) ?_
    refine lv_bipush (v := 6) hx hb dX1_push_33 (by decide) ?_
    refine va_mmin hx hb (hml.trans hl.1.symm) hown (hts (.methodLink RX1 27 Lib.Math.min.name) (by decide +kernel)) (hts (.static Lib.Math.min.name) (by decide +kernel)) (hts (.initialized "java/lang/Math") (by decide +kernel)) (hts (.code Lib.Math.min.name Lib.Math.min.code 2 (some .int)) (by decide +kernel)) (Nat.le_of_ble_eq_true rfl) (Nat.le_of_ble_eq_true rfl) (Nat.zero_le _) (Nat.zero_le _) dX1_push_35 ?_
    refine cx_top (show (if 6 < (nI (ct + 1)) then 6 else (nI (ct + 1))) = (nI (min (ct + 1) 6)) from min6 (by omega)) ?_
    refine cx_put (D := D) (ci := 1) (v := (nI (min (ct + 1) 6))) (ty := .int) (C := RX1) (T := TX1) (N := 3) hx hb hts hinX1 tyX1 tyX1_ok nmX1 hown hK hP (hD _ _) hS 5 cw_5 rfl 2 (by decide) (hts (.fieldLink RX1 19 "SquareGears$SavedGears" "count" "I") (by decide +kernel)) (fun _ h9 => h9) rfl (by decide +kernel) rfl rfl (Nat.le_of_ble_eq_true rfl) cw_I2 dX1_push_38 (fun H locs hP hS => ?_)
    exact W.vret hx hb hr (fun t ht hW => ⟨⟨(), rfl, trivial, by show va_P _ _ _ _; rw [ht]; exact hP⟩, hS.F ht⟩) hS.2.2 dX1_push_41
  · have hG := tk_of_3_0 hP
    refine cx_wv (va_runVN (As := [.ref (adp ad 16 1 3)]) (rest := []) (b := adp ad 16 1 0) ⟨hx, hb, hml, hown, hts⟩ (c_X0_takeFrom l D T (adp ad 16 1) (gwI I 3 0) (gwR R 3 0) _ (adp_AD hAD (by decide) (by decide) (by decide))) ⟨va_cnB 1 hts gX1_push_X0_takeFrom_n23 rfl rfl rfl (nwm_X1_23 hN) (hts (.initialized RX0) (by decide +kernel)) (by decide +kernel) ⟨Nat.le_of_ble_eq_true rfl, Nat.le_of_ble_eq_true rfl⟩, (hts (.instanceMethod yX0_takeFrom) (by decide +kernel)), (hts (.selects RX0 yX0_takeFrom yX0_takeFrom) (by decide +kernel))⟩ ⟨GB.blind, va_recv hK hG (ci := 0) (q0 := 0) rfl gw_0, GB.pre hG hK rfl⟩ rfl rfl hl.1 rfl (lv_room (Nat.le_of_ble_eq_true rfl)) dX1_push_10 ⟨Nat.le_of_ble_eq_true rfl, Nat.le_of_ble_eq_true rfl⟩) hS (fun q h => cA_le hS.1 q (adp_34 (by decide) (by decide) q h)) (fun q h => cA_le hS.1 q (adp_34 (by decide) (by decide) q h)) (fun _ H locs _ hP1 hkk hS => ?_)
    have hP := tk_3_0 hAD hP hkk hP1
    refine lv_aload_n hx hb dX1_push_13 rfl (lv_at hl 0 rfl) ?_
    refine lv_aload_n hx hb dX1_push_14 rfl (lv_at hl 0 rfl) ?_
    refine va_get (D := D) (ci := 1) (v := .int ((tkI I 3 0) 1)) (C := RX1) (T := TX1) (N := 3) hx hb hts hinX1 hown hK hP 5 cw_5 rfl 1 (by decide) (hts (.fieldLink RX1 15 "SquareGears$SavedGears" "next" "I") (by decide +kernel)) (fun _ h9 => h9) rfl dX1_push_15 ?_
    refine cx_top (show ((tkI I 3 0) 1) = (nI 2) from hI1) ?_
    refine lv_iconst (v := 1) hx hb dX1_push_18 (by decide) ?_
    refine lv_iadd hx hb dX1_push_19 ?_
    refine cx_top (y := 3) (by decide) ?_
    refine lv_bipush (v := 6) hx hb dX1_push_20 (by decide) ?_
    refine lv_irem hx hb dX1_push_22 (by decide) ?_
    refine cx_top (y := 3) (by decide) ?_
    refine cx_put (D := D) (ci := 1) (v := 3) (ty := .int) (C := RX1) (T := TX1) (N := 3) hx hb hts hinX1 tyX1 tyX1_ok nmX1 hown hK hP (hD _ _) hS 5 cw_5 rfl 1 (by decide) (hts (.fieldLink RX1 15 "SquareGears$SavedGears" "next" "I") (by decide +kernel)) (fun _ h9 => h9) rfl (by decide +kernel) rfl rfl (Nat.le_of_ble_eq_true rfl) cw_I1 dX1_push_23 (fun H locs hP hS => ?_)
    refine lv_aload_n hx hb dX1_push_26 rfl (lv_at hl 0 rfl) ?_
    refine lv_aload_n hx hb dX1_push_27 rfl (lv_at hl 0 rfl) ?_
    refine va_get (D := D) (ci := 1) (v := .int ((tkI I 3 0) 2)) (C := RX1) (T := TX1) (N := 3) hx hb hts hinX1 hown hK hP 5 cw_5 rfl 2 (by decide) (hts (.fieldLink RX1 19 "SquareGears$SavedGears" "count" "I") (by decide +kernel)) (fun _ h9 => h9) rfl dX1_push_28 ?_
    refine cx_top (show ((tkI I 3 0) 2) = (nI ct) from hI2) ?_
    refine lv_iconst (v := 1) hx hb dX1_push_31 (by decide) ?_
    refine lv_iadd hx hb dX1_push_32 ?_
    refine cx_top (nI_add ct 1) ?_
    refine lv_bipush (v := 6) hx hb dX1_push_33 (by decide) ?_
    refine va_mmin hx hb (hml.trans hl.1.symm) hown (hts (.methodLink RX1 27 Lib.Math.min.name) (by decide +kernel)) (hts (.static Lib.Math.min.name) (by decide +kernel)) (hts (.initialized "java/lang/Math") (by decide +kernel)) (hts (.code Lib.Math.min.name Lib.Math.min.code 2 (some .int)) (by decide +kernel)) (Nat.le_of_ble_eq_true rfl) (Nat.le_of_ble_eq_true rfl) (Nat.zero_le _) (Nat.zero_le _) dX1_push_35 ?_
    refine cx_top (show (if 6 < (nI (ct + 1)) then 6 else (nI (ct + 1))) = (nI (min (ct + 1) 6)) from min6 (by omega)) ?_
    refine cx_put (D := D) (ci := 1) (v := (nI (min (ct + 1) 6))) (ty := .int) (C := RX1) (T := TX1) (N := 3) hx hb hts hinX1 tyX1 tyX1_ok nmX1 hown hK hP (hD _ _) hS 5 cw_5 rfl 2 (by decide) (hts (.fieldLink RX1 19 "SquareGears$SavedGears" "count" "I") (by decide +kernel)) (fun _ h9 => h9) rfl (by decide +kernel) rfl rfl (Nat.le_of_ble_eq_true rfl) cw_I2 dX1_push_38 (fun H locs hP hS => ?_)
    exact W.vret hx hb hr (fun t ht hW => ⟨⟨(), rfl, trivial, by show va_P _ _ _ _; rw [ht]; exact hP⟩, hS.F ht⟩) hS.2.2 dX1_push_41
  · have hG := tk_of_4_0 hP
    refine cx_wv (va_runVN (As := [.ref (adp ad 19 1 3)]) (rest := []) (b := adp ad 19 1 0) ⟨hx, hb, hml, hown, hts⟩ (c_X0_takeFrom l D T (adp ad 19 1) (gwI I 4 0) (gwR R 4 0) _ (adp_AD hAD (by decide) (by decide) (by decide))) ⟨va_cnB 1 hts gX1_push_X0_takeFrom_n23 rfl rfl rfl (nwm_X1_23 hN) (hts (.initialized RX0) (by decide +kernel)) (by decide +kernel) ⟨Nat.le_of_ble_eq_true rfl, Nat.le_of_ble_eq_true rfl⟩, (hts (.instanceMethod yX0_takeFrom) (by decide +kernel)), (hts (.selects RX0 yX0_takeFrom yX0_takeFrom) (by decide +kernel))⟩ ⟨GB.blind, va_recv hK hG (ci := 0) (q0 := 0) rfl gw_0, GB.pre hG hK rfl⟩ rfl rfl hl.1 rfl (lv_room (Nat.le_of_ble_eq_true rfl)) dX1_push_10 ⟨Nat.le_of_ble_eq_true rfl, Nat.le_of_ble_eq_true rfl⟩) hS (fun q h => cA_le hS.1 q (adp_34 (by decide) (by decide) q h)) (fun q h => cA_le hS.1 q (adp_34 (by decide) (by decide) q h)) (fun _ H locs _ hP1 hkk hS => ?_)
    have hP := tk_4_0 hAD hP hkk hP1
    refine lv_aload_n hx hb dX1_push_13 rfl (lv_at hl 0 rfl) ?_
    refine lv_aload_n hx hb dX1_push_14 rfl (lv_at hl 0 rfl) ?_
    refine va_get (D := D) (ci := 1) (v := .int ((tkI I 4 0) 1)) (C := RX1) (T := TX1) (N := 3) hx hb hts hinX1 hown hK hP 5 cw_5 rfl 1 (by decide) (hts (.fieldLink RX1 15 "SquareGears$SavedGears" "next" "I") (by decide +kernel)) (fun _ h9 => h9) rfl dX1_push_15 ?_
    refine cx_top (show ((tkI I 4 0) 1) = (nI 3) from hI1) ?_
    refine lv_iconst (v := 1) hx hb dX1_push_18 (by decide) ?_
    refine lv_iadd hx hb dX1_push_19 ?_
    refine cx_top (y := 4) (by decide) ?_
    refine lv_bipush (v := 6) hx hb dX1_push_20 (by decide) ?_
    refine lv_irem hx hb dX1_push_22 (by decide) ?_
    refine cx_top (y := 4) (by decide) ?_
    refine cx_put (D := D) (ci := 1) (v := 4) (ty := .int) (C := RX1) (T := TX1) (N := 3) hx hb hts hinX1 tyX1 tyX1_ok nmX1 hown hK hP (hD _ _) hS 5 cw_5 rfl 1 (by decide) (hts (.fieldLink RX1 15 "SquareGears$SavedGears" "next" "I") (by decide +kernel)) (fun _ h9 => h9) rfl (by decide +kernel) rfl rfl (Nat.le_of_ble_eq_true rfl) cw_I1 dX1_push_23 (fun H locs hP hS => ?_)
    refine lv_aload_n hx hb dX1_push_26 rfl (lv_at hl 0 rfl) ?_
    refine lv_aload_n hx hb dX1_push_27 rfl (lv_at hl 0 rfl) ?_
    refine va_get (D := D) (ci := 1) (v := .int ((tkI I 4 0) 2)) (C := RX1) (T := TX1) (N := 3) hx hb hts hinX1 hown hK hP 5 cw_5 rfl 2 (by decide) (hts (.fieldLink RX1 19 "SquareGears$SavedGears" "count" "I") (by decide +kernel)) (fun _ h9 => h9) rfl dX1_push_28 ?_
    refine cx_top (show ((tkI I 4 0) 2) = (nI ct) from hI2) ?_
    refine lv_iconst (v := 1) hx hb dX1_push_31 (by decide) ?_
    refine lv_iadd hx hb dX1_push_32 ?_
    refine cx_top (nI_add ct 1) ?_
    refine lv_bipush (v := 6) hx hb dX1_push_33 (by decide) ?_
    refine va_mmin hx hb (hml.trans hl.1.symm) hown (hts (.methodLink RX1 27 Lib.Math.min.name) (by decide +kernel)) (hts (.static Lib.Math.min.name) (by decide +kernel)) (hts (.initialized "java/lang/Math") (by decide +kernel)) (hts (.code Lib.Math.min.name Lib.Math.min.code 2 (some .int)) (by decide +kernel)) (Nat.le_of_ble_eq_true rfl) (Nat.le_of_ble_eq_true rfl) (Nat.zero_le _) (Nat.zero_le _) dX1_push_35 ?_
    refine cx_top (show (if 6 < (nI (ct + 1)) then 6 else (nI (ct + 1))) = (nI (min (ct + 1) 6)) from min6 (by omega)) ?_
    refine cx_put (D := D) (ci := 1) (v := (nI (min (ct + 1) 6))) (ty := .int) (C := RX1) (T := TX1) (N := 3) hx hb hts hinX1 tyX1 tyX1_ok nmX1 hown hK hP (hD _ _) hS 5 cw_5 rfl 2 (by decide) (hts (.fieldLink RX1 19 "SquareGears$SavedGears" "count" "I") (by decide +kernel)) (fun _ h9 => h9) rfl (by decide +kernel) rfl rfl (Nat.le_of_ble_eq_true rfl) cw_I2 dX1_push_38 (fun H locs hP hS => ?_)
    exact W.vret hx hb hr (fun t ht hW => ⟨⟨(), rfl, trivial, by show va_P _ _ _ _; rw [ht]; exact hP⟩, hS.F ht⟩) hS.2.2 dX1_push_41
  · have hG := tk_of_5_0 hP
    refine cx_wv (va_runVN (As := [.ref (adp ad 22 1 3)]) (rest := []) (b := adp ad 22 1 0) ⟨hx, hb, hml, hown, hts⟩ (c_X0_takeFrom l D T (adp ad 22 1) (gwI I 5 0) (gwR R 5 0) _ (adp_AD hAD (by decide) (by decide) (by decide))) ⟨va_cnB 1 hts gX1_push_X0_takeFrom_n23 rfl rfl rfl (nwm_X1_23 hN) (hts (.initialized RX0) (by decide +kernel)) (by decide +kernel) ⟨Nat.le_of_ble_eq_true rfl, Nat.le_of_ble_eq_true rfl⟩, (hts (.instanceMethod yX0_takeFrom) (by decide +kernel)), (hts (.selects RX0 yX0_takeFrom yX0_takeFrom) (by decide +kernel))⟩ ⟨GB.blind, va_recv hK hG (ci := 0) (q0 := 0) rfl gw_0, GB.pre hG hK rfl⟩ rfl rfl hl.1 rfl (lv_room (Nat.le_of_ble_eq_true rfl)) dX1_push_10 ⟨Nat.le_of_ble_eq_true rfl, Nat.le_of_ble_eq_true rfl⟩) hS (fun q h => cA_le hS.1 q (adp_34 (by decide) (by decide) q h)) (fun q h => cA_le hS.1 q (adp_34 (by decide) (by decide) q h)) (fun _ H locs _ hP1 hkk hS => ?_)
    have hP := tk_5_0 hAD hP hkk hP1
    refine lv_aload_n hx hb dX1_push_13 rfl (lv_at hl 0 rfl) ?_
    refine lv_aload_n hx hb dX1_push_14 rfl (lv_at hl 0 rfl) ?_
    refine va_get (D := D) (ci := 1) (v := .int ((tkI I 5 0) 1)) (C := RX1) (T := TX1) (N := 3) hx hb hts hinX1 hown hK hP 5 cw_5 rfl 1 (by decide) (hts (.fieldLink RX1 15 "SquareGears$SavedGears" "next" "I") (by decide +kernel)) (fun _ h9 => h9) rfl dX1_push_15 ?_
    refine cx_top (show ((tkI I 5 0) 1) = (nI 4) from hI1) ?_
    refine lv_iconst (v := 1) hx hb dX1_push_18 (by decide) ?_
    refine lv_iadd hx hb dX1_push_19 ?_
    refine cx_top (y := 5) (by decide) ?_
    refine lv_bipush (v := 6) hx hb dX1_push_20 (by decide) ?_
    refine lv_irem hx hb dX1_push_22 (by decide) ?_
    refine cx_top (y := 5) (by decide) ?_
    refine cx_put (D := D) (ci := 1) (v := 5) (ty := .int) (C := RX1) (T := TX1) (N := 3) hx hb hts hinX1 tyX1 tyX1_ok nmX1 hown hK hP (hD _ _) hS 5 cw_5 rfl 1 (by decide) (hts (.fieldLink RX1 15 "SquareGears$SavedGears" "next" "I") (by decide +kernel)) (fun _ h9 => h9) rfl (by decide +kernel) rfl rfl (Nat.le_of_ble_eq_true rfl) cw_I1 dX1_push_23 (fun H locs hP hS => ?_)
    refine lv_aload_n hx hb dX1_push_26 rfl (lv_at hl 0 rfl) ?_
    refine lv_aload_n hx hb dX1_push_27 rfl (lv_at hl 0 rfl) ?_
    refine va_get (D := D) (ci := 1) (v := .int ((tkI I 5 0) 2)) (C := RX1) (T := TX1) (N := 3) hx hb hts hinX1 hown hK hP 5 cw_5 rfl 2 (by decide) (hts (.fieldLink RX1 19 "SquareGears$SavedGears" "count" "I") (by decide +kernel)) (fun _ h9 => h9) rfl dX1_push_28 ?_
    refine cx_top (show ((tkI I 5 0) 2) = (nI ct) from hI2) ?_
    refine lv_iconst (v := 1) hx hb dX1_push_31 (by decide) ?_
    refine lv_iadd hx hb dX1_push_32 ?_
    refine cx_top (nI_add ct 1) ?_
    refine lv_bipush (v := 6) hx hb dX1_push_33 (by decide) ?_
    refine va_mmin hx hb (hml.trans hl.1.symm) hown (hts (.methodLink RX1 27 Lib.Math.min.name) (by decide +kernel)) (hts (.static Lib.Math.min.name) (by decide +kernel)) (hts (.initialized "java/lang/Math") (by decide +kernel)) (hts (.code Lib.Math.min.name Lib.Math.min.code 2 (some .int)) (by decide +kernel)) (Nat.le_of_ble_eq_true rfl) (Nat.le_of_ble_eq_true rfl) (Nat.zero_le _) (Nat.zero_le _) dX1_push_35 ?_
    refine cx_top (show (if 6 < (nI (ct + 1)) then 6 else (nI (ct + 1))) = (nI (min (ct + 1) 6)) from min6 (by omega)) ?_
    refine cx_put (D := D) (ci := 1) (v := (nI (min (ct + 1) 6))) (ty := .int) (C := RX1) (T := TX1) (N := 3) hx hb hts hinX1 tyX1 tyX1_ok nmX1 hown hK hP (hD _ _) hS 5 cw_5 rfl 2 (by decide) (hts (.fieldLink RX1 19 "SquareGears$SavedGears" "count" "I") (by decide +kernel)) (fun _ h9 => h9) rfl (by decide +kernel) rfl rfl (Nat.le_of_ble_eq_true rfl) cw_I2 dX1_push_38 (fun H locs hP hS => ?_)
    exact W.vret hx hb hr (fun t ht hW => ⟨⟨(), rfl, trivial, by show va_P _ _ _ _; rw [ht]; exact hP⟩, hS.F ht⟩) hS.2.2 dX1_push_41
  · have hG := tk_of_6_0 hP
    refine cx_wv (va_runVN (As := [.ref (adp ad 25 1 3)]) (rest := []) (b := adp ad 25 1 0) ⟨hx, hb, hml, hown, hts⟩ (c_X0_takeFrom l D T (adp ad 25 1) (gwI I 6 0) (gwR R 6 0) _ (adp_AD hAD (by decide) (by decide) (by decide))) ⟨va_cnB 1 hts gX1_push_X0_takeFrom_n23 rfl rfl rfl (nwm_X1_23 hN) (hts (.initialized RX0) (by decide +kernel)) (by decide +kernel) ⟨Nat.le_of_ble_eq_true rfl, Nat.le_of_ble_eq_true rfl⟩, (hts (.instanceMethod yX0_takeFrom) (by decide +kernel)), (hts (.selects RX0 yX0_takeFrom yX0_takeFrom) (by decide +kernel))⟩ ⟨GB.blind, va_recv hK hG (ci := 0) (q0 := 0) rfl gw_0, GB.pre hG hK rfl⟩ rfl rfl hl.1 rfl (lv_room (Nat.le_of_ble_eq_true rfl)) dX1_push_10 ⟨Nat.le_of_ble_eq_true rfl, Nat.le_of_ble_eq_true rfl⟩) hS (fun q h => cA_le hS.1 q (adp_34 (by decide) (by decide) q h)) (fun q h => cA_le hS.1 q (adp_34 (by decide) (by decide) q h)) (fun _ H locs _ hP1 hkk hS => ?_)
    have hP := tk_6_0 hAD hP hkk hP1
    refine lv_aload_n hx hb dX1_push_13 rfl (lv_at hl 0 rfl) ?_
    refine lv_aload_n hx hb dX1_push_14 rfl (lv_at hl 0 rfl) ?_
    refine va_get (D := D) (ci := 1) (v := .int ((tkI I 6 0) 1)) (C := RX1) (T := TX1) (N := 3) hx hb hts hinX1 hown hK hP 5 cw_5 rfl 1 (by decide) (hts (.fieldLink RX1 15 "SquareGears$SavedGears" "next" "I") (by decide +kernel)) (fun _ h9 => h9) rfl dX1_push_15 ?_
    refine cx_top (show ((tkI I 6 0) 1) = (nI 5) from hI1) ?_
    refine lv_iconst (v := 1) hx hb dX1_push_18 (by decide) ?_
    refine lv_iadd hx hb dX1_push_19 ?_
    refine cx_top (y := 6) (by decide) ?_
    refine lv_bipush (v := 6) hx hb dX1_push_20 (by decide) ?_
    refine lv_irem hx hb dX1_push_22 (by decide) ?_
    refine cx_top (y := 0) (by decide) ?_
    refine cx_put (D := D) (ci := 1) (v := 0) (ty := .int) (C := RX1) (T := TX1) (N := 3) hx hb hts hinX1 tyX1 tyX1_ok nmX1 hown hK hP (hD _ _) hS 5 cw_5 rfl 1 (by decide) (hts (.fieldLink RX1 15 "SquareGears$SavedGears" "next" "I") (by decide +kernel)) (fun _ h9 => h9) rfl (by decide +kernel) rfl rfl (Nat.le_of_ble_eq_true rfl) cw_I1 dX1_push_23 (fun H locs hP hS => ?_)
    refine lv_aload_n hx hb dX1_push_26 rfl (lv_at hl 0 rfl) ?_
    refine lv_aload_n hx hb dX1_push_27 rfl (lv_at hl 0 rfl) ?_
    refine va_get (D := D) (ci := 1) (v := .int ((tkI I 6 0) 2)) (C := RX1) (T := TX1) (N := 3) hx hb hts hinX1 hown hK hP 5 cw_5 rfl 2 (by decide) (hts (.fieldLink RX1 19 "SquareGears$SavedGears" "count" "I") (by decide +kernel)) (fun _ h9 => h9) rfl dX1_push_28 ?_
    refine cx_top (show ((tkI I 6 0) 2) = (nI ct) from hI2) ?_
    refine lv_iconst (v := 1) hx hb dX1_push_31 (by decide) ?_
    refine lv_iadd hx hb dX1_push_32 ?_
    refine cx_top (nI_add ct 1) ?_
    refine lv_bipush (v := 6) hx hb dX1_push_33 (by decide) ?_
    refine va_mmin hx hb (hml.trans hl.1.symm) hown (hts (.methodLink RX1 27 Lib.Math.min.name) (by decide +kernel)) (hts (.static Lib.Math.min.name) (by decide +kernel)) (hts (.initialized "java/lang/Math") (by decide +kernel)) (hts (.code Lib.Math.min.name Lib.Math.min.code 2 (some .int)) (by decide +kernel)) (Nat.le_of_ble_eq_true rfl) (Nat.le_of_ble_eq_true rfl) (Nat.zero_le _) (Nat.zero_le _) dX1_push_35 ?_
    refine cx_top (show (if 6 < (nI (ct + 1)) then 6 else (nI (ct + 1))) = (nI (min (ct + 1) 6)) from min6 (by omega)) ?_
    refine cx_put (D := D) (ci := 1) (v := (nI (min (ct + 1) 6))) (ty := .int) (C := RX1) (T := TX1) (N := 3) hx hb hts hinX1 tyX1 tyX1_ok nmX1 hown hK hP (hD _ _) hS 5 cw_5 rfl 2 (by decide) (hts (.fieldLink RX1 19 "SquareGears$SavedGears" "count" "I") (by decide +kernel)) (fun _ h9 => h9) rfl (by decide +kernel) rfl rfl (Nat.le_of_ble_eq_true rfl) cw_I2 dX1_push_38 (fun H locs hP hS => ?_)
    exact W.vret hx hb hr (fun t ht hW => ⟨⟨(), rfl, trivial, by show va_P _ _ _ _; rw [ht]; exact hP⟩, hS.F ht⟩) hS.2.2 dX1_push_41
set_option maxHeartbeats 4000000 in
set_option maxRecDepth 100000 in
theorem c_X1_popInto (l : Launch) (D : va_G) (T : Nat → ClassId) (ad : Nat → Nat) (I : Nat → Int32) (R : Nat → Nat → Int32) (sz : Nat) (nx : Nat) (ct : Nat) (hAD : AD 34 ad) (hnx : nx < 6) (hct : ct ≤ 6) (hI1 : I 1 = nI nx) (hI2 : I 2 = nI ct) (hct0 : 0 < ct) : Met l yX1_popInto wsX1_popInto ({ frames := 2, cells := 0, slots := 0, locals := 39 }) (va_Pc [.ref (ad 5), .ref (ad 1)] (CB D T ad I R sz)) (va_Qv (fun (u9 : Unit) => True) (fun (u9 : Unit) t => va_P D vwCl (cw T ad (popI I nx ct) (popR R nx)) t.heap) (cA 34 ad sz)) 0 0 (cA 34 ad sz) := by
  refine Met.ofW (cc := cX1_popInto) (maxL := 2) (ret := none) (by decide) rfl ?_
  intro p e s m args_ below meth c s₁ B hml hv
  obtain ⟨rfl, hsz, hP, hK, hN⟩ := hv
  have hx := B.exec
  have hb := B.bytes
  have hr := B.returns
  have hts := atoms_spec (ws := wsX1_popInto) B.pre
  have hown : s.vm.findClass RX1 = some m.cls := findClass_of_methodNamed B.named
  have hlocks := B.notSynchronized
  have hinX1 : ∀ w ∈ u_ws RX1 TX1 3, w ∈ wsX1_popInto := by decide +kernel
  subst hsz
  have hS : va_S (cA 34 ad s.heap.size) s.heap s.heap [] := va_S.rf
  have hD : ∀ I R, va_D (cA 34 ad s.heap.size) (cw T ad I R) := fun I R => cw_D hAD (fun k hk => cA_in hk)
  have hl := lv_entry ([.ref (ad 5), .ref (ad 1)]) (n := 2) (Nat.le_of_ble_eq_true rfl)
  rw [lg_entry_eq]
  generalize (lg_sl ([.ref (ad 5), .ref (ad 1)]) ++ List.replicate (2 - (lg_sl ([.ref (ad 5), .ref (ad 1)])).length) Slot.unset).toArray = ls at hl ⊢
  have hl : lv_has ls 2 [(0, .ref (ad 5)), (1, .ref (ad 1))] := hl
  refine lv_aload_n hx hb dX1_popInto_0 rfl (lv_at hl 0 rfl) ?_
  refine lv_aload_n hx hb dX1_popInto_1 rfl (lv_at hl 0 rfl) ?_
  refine va_get (D := D) (ci := 1) (v := .int (I 1)) (C := RX1) (T := TX1) (N := 3) hx hb hts hinX1 hown hK hP 5 cw_5 rfl 1 (by decide) (hts (.fieldLink RX1 15 "SquareGears$SavedGears" "next" "I") (by decide +kernel)) (fun _ h9 => h9) rfl dX1_popInto_2 ?_
  refine cx_top (show (I 1) = (nI nx) from hI1) ?_
  refine lv_bipush (v := 6) hx hb dX1_popInto_5 (by decide) ?_
  refine lv_iadd hx hb dX1_popInto_7 ?_
  refine cx_top (nI_add nx 6) ?_
  refine lv_iconst (v := 1) hx hb dX1_popInto_8 (by decide) ?_
  refine lv_isub hx hb dX1_popInto_9 ?_
  refine cx_top (pk_sub (a := (nx + 6)) (b := 1) (by omega)) ?_
  refine lv_bipush (v := 6) hx hb dX1_popInto_10 (by decide) ?_
  refine lv_irem hx hb dX1_popInto_12 (by decide) ?_
  refine cx_top (pk_rem (a := (nx + 6) - 1) (d := 6) (by omega) (by decide) (by decide)) ?_
  refine cx_put (D := D) (ci := 1) (v := (nI (((nx + 6) - 1) % 6))) (ty := .int) (C := RX1) (T := TX1) (N := 3) hx hb hts hinX1 tyX1 tyX1_ok nmX1 hown hK hP (hD _ _) hS 5 cw_5 rfl 1 (by decide) (hts (.fieldLink RX1 15 "SquareGears$SavedGears" "next" "I") (by decide +kernel)) (fun _ h9 => h9) rfl (by decide +kernel) rfl rfl (Nat.le_of_ble_eq_true rfl) cw_I1 dX1_popInto_13 (fun H locs hP hS => ?_)
  refine lv_aload_n hx hb dX1_popInto_16 rfl (lv_at hl 0 rfl) ?_
  refine lv_dup hx hb dX1_popInto_17 rfl ?_
  refine va_get (D := D) (ci := 1) (v := .int (I 2)) (C := RX1) (T := TX1) (N := 3) hx hb hts hinX1 hown hK hP 5 cw_5 rfl 2 (by decide) (hts (.fieldLink RX1 19 "SquareGears$SavedGears" "count" "I") (by decide +kernel)) (fun _ h9 => h9) rfl dX1_popInto_18 ?_
  refine cx_top (show (I 2) = (nI ct) from hI2) ?_
  refine lv_iconst (v := 1) hx hb dX1_popInto_21 (by decide) ?_
  refine lv_isub hx hb dX1_popInto_22 ?_
  refine cx_top (pk_sub (a := ct) (b := 1) (by omega)) ?_
  refine cx_put (D := D) (ci := 1) (v := (nI (ct - 1))) (ty := .int) (C := RX1) (T := TX1) (N := 3) hx hb hts hinX1 tyX1 tyX1_ok nmX1 hown hK hP (hD _ _) hS 5 cw_5 rfl 2 (by decide) (hts (.fieldLink RX1 19 "SquareGears$SavedGears" "count" "I") (by decide +kernel)) (fun _ h9 => h9) rfl (by decide +kernel) rfl rfl (Nat.le_of_ble_eq_true rfl) cw_I2 dX1_popInto_23 (fun H locs hP hS => ?_)
  refine lv_aload_n hx hb dX1_popInto_26 rfl (lv_at hl 1 rfl) ?_
  refine lv_aload_n hx hb dX1_popInto_27 rfl (lv_at hl 0 rfl) ?_
  refine va_get (D := D) (ci := 1) (v := .ref (ad 6)) (C := RX1) (T := TX1) (N := 3) hx hb hts hinX1 hown hK hP 5 cw_5 rfl 0 (by decide) (hts (.fieldLink RX1 11 "SquareGears$SavedGears" "ring" "[LSquareGears$Gears;") (by decide +kernel)) (fun _ h9 => h9) rfl dX1_popInto_28 ?_
  refine lv_aload_n hx hb dX1_popInto_31 rfl (lv_at hl 0 rfl) ?_
  refine va_get (D := D) (ci := 1) (v := .int (nI ((((nx + 6) - 1) % 6)))) (C := RX1) (T := TX1) (N := 3) hx hb hts hinX1 hown hK hP 5 cw_5 rfl 1 (by decide) (hts (.fieldLink RX1 15 "SquareGears$SavedGears" "next" "I") (by decide +kernel)) (fun _ h9 => h9) rfl dX1_popInto_32 ?_
  refine cx_top (show (nI (((nx + 6) - 1) % 6)) = (nI ((nx + 5) % 6)) from rfl) ?_
  refine cx_aldq (k := ((nx + 5) % 6)) hx hb hK hP 6 3 cw_6 rfl (by omega) (by decide) dX1_popInto_35 rfl ?_
  rcases (show nx = 0 ∨ nx = 1 ∨ nx = 2 ∨ nx = 3 ∨ nx = 4 ∨ nx = 5 by omega) with rfl | rfl | rfl | rfl | rfl | rfl
  · have hG := tk_of_0_6 hP
    refine cx_wv (va_runVN (As := [.ref (adp ad 1 25 3)]) (rest := []) (b := adp ad 1 25 0) ⟨hx, hb, hml, hown, hts⟩ (c_X0_takeFrom l D T (adp ad 1 25) (gwI (upd (upd I 1 (nI (((0 + 6) - 1) % 6))) 2 (nI (ct - 1))) 0 6) (gwR R 0 6) _ (adp_AD hAD (by decide) (by decide) (by decide))) ⟨va_cnB 1 hts gX1_popInto_X0_takeFrom_n23 rfl rfl rfl (nwm_X1_23 hN) (hts (.initialized RX0) (by decide +kernel)) (by decide +kernel) ⟨Nat.le_of_ble_eq_true rfl, Nat.le_of_ble_eq_true rfl⟩, (hts (.instanceMethod yX0_takeFrom) (by decide +kernel)), (hts (.selects RX0 yX0_takeFrom yX0_takeFrom) (by decide +kernel))⟩ ⟨GB.blind, va_recv hK hG (ci := 0) (q0 := 0) rfl gw_0, GB.pre hG hK rfl⟩ rfl rfl hl.1 rfl (lv_room (Nat.le_of_ble_eq_true rfl)) dX1_popInto_36 ⟨Nat.le_of_ble_eq_true rfl, Nat.le_of_ble_eq_true rfl⟩) hS (fun q h => cA_le hS.1 q (adp_34 (by decide) (by decide) q h)) (fun q h => cA_le hS.1 q (adp_34 (by decide) (by decide) q h)) (fun _ H locs _ hP1 hkk hS => ?_)
    have hP := tk_0_6 hAD hP hkk hP1
    exact W.vret hx hb hr (fun t ht hW => ⟨⟨(), rfl, trivial, by show va_P _ _ _ _; rw [ht]; exact hP⟩, hS.F ht⟩) hS.2.2 dX1_popInto_39
  · have hG := tk_of_0_1 hP
    refine cx_wv (va_runVN (As := [.ref (adp ad 1 10 3)]) (rest := []) (b := adp ad 1 10 0) ⟨hx, hb, hml, hown, hts⟩ (c_X0_takeFrom l D T (adp ad 1 10) (gwI (upd (upd I 1 (nI (((1 + 6) - 1) % 6))) 2 (nI (ct - 1))) 0 1) (gwR R 0 1) _ (adp_AD hAD (by decide) (by decide) (by decide))) ⟨va_cnB 1 hts gX1_popInto_X0_takeFrom_n23 rfl rfl rfl (nwm_X1_23 hN) (hts (.initialized RX0) (by decide +kernel)) (by decide +kernel) ⟨Nat.le_of_ble_eq_true rfl, Nat.le_of_ble_eq_true rfl⟩, (hts (.instanceMethod yX0_takeFrom) (by decide +kernel)), (hts (.selects RX0 yX0_takeFrom yX0_takeFrom) (by decide +kernel))⟩ ⟨GB.blind, va_recv hK hG (ci := 0) (q0 := 0) rfl gw_0, GB.pre hG hK rfl⟩ rfl rfl hl.1 rfl (lv_room (Nat.le_of_ble_eq_true rfl)) dX1_popInto_36 ⟨Nat.le_of_ble_eq_true rfl, Nat.le_of_ble_eq_true rfl⟩) hS (fun q h => cA_le hS.1 q (adp_34 (by decide) (by decide) q h)) (fun q h => cA_le hS.1 q (adp_34 (by decide) (by decide) q h)) (fun _ H locs _ hP1 hkk hS => ?_)
    have hP := tk_0_1 hAD hP hkk hP1
    exact W.vret hx hb hr (fun t ht hW => ⟨⟨(), rfl, trivial, by show va_P _ _ _ _; rw [ht]; exact hP⟩, hS.F ht⟩) hS.2.2 dX1_popInto_39
  · have hG := tk_of_0_2 hP
    refine cx_wv (va_runVN (As := [.ref (adp ad 1 13 3)]) (rest := []) (b := adp ad 1 13 0) ⟨hx, hb, hml, hown, hts⟩ (c_X0_takeFrom l D T (adp ad 1 13) (gwI (upd (upd I 1 (nI (((2 + 6) - 1) % 6))) 2 (nI (ct - 1))) 0 2) (gwR R 0 2) _ (adp_AD hAD (by decide) (by decide) (by decide))) ⟨va_cnB 1 hts gX1_popInto_X0_takeFrom_n23 rfl rfl rfl (nwm_X1_23 hN) (hts (.initialized RX0) (by decide +kernel)) (by decide +kernel) ⟨Nat.le_of_ble_eq_true rfl, Nat.le_of_ble_eq_true rfl⟩, (hts (.instanceMethod yX0_takeFrom) (by decide +kernel)), (hts (.selects RX0 yX0_takeFrom yX0_takeFrom) (by decide +kernel))⟩ ⟨GB.blind, va_recv hK hG (ci := 0) (q0 := 0) rfl gw_0, GB.pre hG hK rfl⟩ rfl rfl hl.1 rfl (lv_room (Nat.le_of_ble_eq_true rfl)) dX1_popInto_36 ⟨Nat.le_of_ble_eq_true rfl, Nat.le_of_ble_eq_true rfl⟩) hS (fun q h => cA_le hS.1 q (adp_34 (by decide) (by decide) q h)) (fun q h => cA_le hS.1 q (adp_34 (by decide) (by decide) q h)) (fun _ H locs _ hP1 hkk hS => ?_)
    have hP := tk_0_2 hAD hP hkk hP1
    exact W.vret hx hb hr (fun t ht hW => ⟨⟨(), rfl, trivial, by show va_P _ _ _ _; rw [ht]; exact hP⟩, hS.F ht⟩) hS.2.2 dX1_popInto_39
  · have hG := tk_of_0_3 hP
    refine cx_wv (va_runVN (As := [.ref (adp ad 1 16 3)]) (rest := []) (b := adp ad 1 16 0) ⟨hx, hb, hml, hown, hts⟩ (c_X0_takeFrom l D T (adp ad 1 16) (gwI (upd (upd I 1 (nI (((3 + 6) - 1) % 6))) 2 (nI (ct - 1))) 0 3) (gwR R 0 3) _ (adp_AD hAD (by decide) (by decide) (by decide))) ⟨va_cnB 1 hts gX1_popInto_X0_takeFrom_n23 rfl rfl rfl (nwm_X1_23 hN) (hts (.initialized RX0) (by decide +kernel)) (by decide +kernel) ⟨Nat.le_of_ble_eq_true rfl, Nat.le_of_ble_eq_true rfl⟩, (hts (.instanceMethod yX0_takeFrom) (by decide +kernel)), (hts (.selects RX0 yX0_takeFrom yX0_takeFrom) (by decide +kernel))⟩ ⟨GB.blind, va_recv hK hG (ci := 0) (q0 := 0) rfl gw_0, GB.pre hG hK rfl⟩ rfl rfl hl.1 rfl (lv_room (Nat.le_of_ble_eq_true rfl)) dX1_popInto_36 ⟨Nat.le_of_ble_eq_true rfl, Nat.le_of_ble_eq_true rfl⟩) hS (fun q h => cA_le hS.1 q (adp_34 (by decide) (by decide) q h)) (fun q h => cA_le hS.1 q (adp_34 (by decide) (by decide) q h)) (fun _ H locs _ hP1 hkk hS => ?_)
    have hP := tk_0_3 hAD hP hkk hP1
    exact W.vret hx hb hr (fun t ht hW => ⟨⟨(), rfl, trivial, by show va_P _ _ _ _; rw [ht]; exact hP⟩, hS.F ht⟩) hS.2.2 dX1_popInto_39
  · have hG := tk_of_0_4 hP
    refine cx_wv (va_runVN (As := [.ref (adp ad 1 19 3)]) (rest := []) (b := adp ad 1 19 0) ⟨hx, hb, hml, hown, hts⟩ (c_X0_takeFrom l D T (adp ad 1 19) (gwI (upd (upd I 1 (nI (((4 + 6) - 1) % 6))) 2 (nI (ct - 1))) 0 4) (gwR R 0 4) _ (adp_AD hAD (by decide) (by decide) (by decide))) ⟨va_cnB 1 hts gX1_popInto_X0_takeFrom_n23 rfl rfl rfl (nwm_X1_23 hN) (hts (.initialized RX0) (by decide +kernel)) (by decide +kernel) ⟨Nat.le_of_ble_eq_true rfl, Nat.le_of_ble_eq_true rfl⟩, (hts (.instanceMethod yX0_takeFrom) (by decide +kernel)), (hts (.selects RX0 yX0_takeFrom yX0_takeFrom) (by decide +kernel))⟩ ⟨GB.blind, va_recv hK hG (ci := 0) (q0 := 0) rfl gw_0, GB.pre hG hK rfl⟩ rfl rfl hl.1 rfl (lv_room (Nat.le_of_ble_eq_true rfl)) dX1_popInto_36 ⟨Nat.le_of_ble_eq_true rfl, Nat.le_of_ble_eq_true rfl⟩) hS (fun q h => cA_le hS.1 q (adp_34 (by decide) (by decide) q h)) (fun q h => cA_le hS.1 q (adp_34 (by decide) (by decide) q h)) (fun _ H locs _ hP1 hkk hS => ?_)
    have hP := tk_0_4 hAD hP hkk hP1
    exact W.vret hx hb hr (fun t ht hW => ⟨⟨(), rfl, trivial, by show va_P _ _ _ _; rw [ht]; exact hP⟩, hS.F ht⟩) hS.2.2 dX1_popInto_39
  · have hG := tk_of_0_5 hP
    refine cx_wv (va_runVN (As := [.ref (adp ad 1 22 3)]) (rest := []) (b := adp ad 1 22 0) ⟨hx, hb, hml, hown, hts⟩ (c_X0_takeFrom l D T (adp ad 1 22) (gwI (upd (upd I 1 (nI (((5 + 6) - 1) % 6))) 2 (nI (ct - 1))) 0 5) (gwR R 0 5) _ (adp_AD hAD (by decide) (by decide) (by decide))) ⟨va_cnB 1 hts gX1_popInto_X0_takeFrom_n23 rfl rfl rfl (nwm_X1_23 hN) (hts (.initialized RX0) (by decide +kernel)) (by decide +kernel) ⟨Nat.le_of_ble_eq_true rfl, Nat.le_of_ble_eq_true rfl⟩, (hts (.instanceMethod yX0_takeFrom) (by decide +kernel)), (hts (.selects RX0 yX0_takeFrom yX0_takeFrom) (by decide +kernel))⟩ ⟨GB.blind, va_recv hK hG (ci := 0) (q0 := 0) rfl gw_0, GB.pre hG hK rfl⟩ rfl rfl hl.1 rfl (lv_room (Nat.le_of_ble_eq_true rfl)) dX1_popInto_36 ⟨Nat.le_of_ble_eq_true rfl, Nat.le_of_ble_eq_true rfl⟩) hS (fun q h => cA_le hS.1 q (adp_34 (by decide) (by decide) q h)) (fun q h => cA_le hS.1 q (adp_34 (by decide) (by decide) q h)) (fun _ H locs _ hP1 hkk hS => ?_)
    have hP := tk_0_5 hAD hP hkk hP1
    exact W.vret hx hb hr (fun t ht hW => ⟨⟨(), rfl, trivial, by show va_P _ _ _ _; rw [ht]; exact hP⟩, hS.F ht⟩) hS.2.2 dX1_popInto_39

set_option maxHeartbeats 4000000 in
set_option maxRecDepth 100000 in
theorem c_X3_changesOfWave (l : Launch) (k : Nat) (hk : k < 8) : Met l yX3_changesOfWave wsX3_changesOfWave ({ frames := 2, cells := 0, slots := 0, locals := 41 }) (va_Pc [.int (nI k)] (fun _ => True)) (RqI (chS k 7)) 0 0 (fun _ => False) := by
  refine Met.ofW (cc := cX3_changesOfWave) (maxL := 3) (ret := (some .int)) (by decide) rfl ?_
  intro p e s m args_ below meth c s₁ B hml hv
  obtain ⟨rfl, -⟩ := hv
  have hP : va_P ((fun _ => 0), (fun _ _ => 0)) [] [] s.heap := fun k q h => by simp at h
  have hx := B.exec
  have hb := B.bytes
  have hr := B.returns
  have hts := atoms_spec (ws := wsX3_changesOfWave) B.pre
  have hown : s.vm.findClass RX3 = some m.cls := findClass_of_methodNamed B.named
  have hlocks := B.notSynchronized
  have hS : va_S (fun _ => False) s.heap s.heap [] := va_S.rf
  have hl := lv_entry ([.int (nI k)]) (n := 3) (Nat.le_of_ble_eq_true rfl)
  rw [lg_entry_eq]
  generalize (lg_sl ([.int (nI k)]) ++ List.replicate (3 - (lg_sl ([.int (nI k)])).length) Slot.unset).toArray = ls at hl ⊢
  have hl : lv_has ls 3 [(0, .int (nI k))] := hl
  refine lv_iconst (v := 0) hx hb dX3_changesOfWave_0 (by decide) ?_
  refine lv_istore_n (lv' := [(1, .int 0), (0, .int (nI k))]) hx hb dX3_changesOfWave_1 rfl hl (by decide) rfl (fun ls hl => ?_)
  refine lv_iconst (v := 0) hx hb dX3_changesOfWave_2 (by decide) ?_
  refine lv_istore_n (lv' := [(2, .int 0), (1, .int 0), (0, .int (nI k))]) hx hb dX3_changesOfWave_3 rfl hl (by decide) rfl (fun ls hl => ?_)
  suffices ih_4 : ∀ (fu : Nat) (i : Nat) (x1 : Int32) (H : Heap) (locs : List Loc) (ls : Array Slot), 7 - i < fu → (i ≤ 7) → (x1 = chS k i) → va_P ((fun _ => 0), (fun _ _ => 0)) [] [] H →  va_S (fun _ => False) s.heap H locs → lv_has ls 3 [(0, .int (nI k)), (1, .int x1), (2, .int (nI i))] → W p l e (headSpec wsX3_changesOfWave ({ frames := 2, cells := 0, slots := 0, locals := 41 })).room s m ([.int (nI k)] : List Value).toArray below meth c H locs 0 0 (MQ below (RqI (chS k 7)) ([.int (nI k)] : List Value).toArray s 0 0 (fun _ => False)) (F0 m 4 ls []) from
    ih_4 _ 0 0 _ _ _ (Nat.lt_succ_self _) (by omega) (rfl) hP hS (lv_sub hl [2, 1, 0] rfl)
  intro fu
  induction fu with
  | zero => intro i x1 H locs ls hfu; exact absurd hfu (Nat.not_lt_zero _)
  | succ fu ih_4 =>
    intro i x1 H locs ls hfu hi hx1 hP hS hl
    refine lv_iload_n hx hb dX3_changesOfWave_4 rfl (lv_at hl 2 rfl) ?_
    refine lv_bipush (v := 7) hx hb dX3_changesOfWave_5 (by decide) ?_
    refine lv_icmp_ge (tgt := 34) hx hb dX3_changesOfWave_7 (by decide) (fun c_7 => ?_) (fun c_7 => ?_)
    · have c_7 : 7 ≤ i := (nI_leI (a := 7) (b := i) (by omega) (by omega)).mp c_7
      obtain rfl : i = 7 := by omega
      refine lv_iload_n hx hb dX3_changesOfWave_34 rfl (lv_at hl 1 rfl) ?_
      exact W.iret (v := x1) hx hb hr (fun t ht hW => ⟨⟨x1, (), rfl, (hx1), trivial⟩, hS.F ht⟩) hS.2.2 dX3_changesOfWave_35
    · have c_7 : ¬ (7 ≤ i) := fun h => c_7 ((nI_leI (a := 7) (b := i) (by omega) (by omega)).mpr h)
      refine lv_iload_n hx hb dX3_changesOfWave_10 rfl (lv_at hl 0 rfl) ?_
      refine lv_iload_n hx hb dX3_changesOfWave_11 rfl (lv_at hl 2 rfl) ?_
      refine cx_ri (va_runS (As := [.int (nI k), .int (nI i)]) (rest := []) ⟨hx, hb, hml, hown, hts⟩ (c_X3_wave l  k i (hk) (by omega)) (va_cwS 2 hts gX3_changesOfWave_X3_wave rfl rfl rfl (by decide +kernel) ⟨Nat.le_of_ble_eq_true rfl, Nat.le_of_ble_eq_true rfl⟩) ⟨pc_blind, (fun U hU hW => ⟨rfl, trivial⟩)⟩ rfl rfl hl.1 rfl (lv_room (Nat.le_of_ble_eq_true rfl)) dX3_changesOfWave_12 ⟨Nat.le_of_ble_eq_true rfl, Nat.le_of_ble_eq_true rfl⟩) hS hP (fun H locs hP hS => ?_)
      refine lv_iload_n hx hb dX3_changesOfWave_15 rfl (lv_at hl 0 rfl) ?_
      refine lv_iload_n hx hb dX3_changesOfWave_16 rfl (lv_at hl 2 rfl) ?_
      refine lv_iconst (v := 1) hx hb dX3_changesOfWave_17 (by decide) ?_
      refine lv_iadd hx hb dX3_changesOfWave_18 ?_
      refine cx_top (nI_add i 1) ?_
      refine cx_ri (va_runS (As := [.int (nI k), .int (nI (i + 1))]) (rest := [.int (wv k i)]) ⟨hx, hb, hml, hown, hts⟩ (c_X3_wave l  k (i + 1) (hk) (by omega)) (va_cwS 2 hts gX3_changesOfWave_X3_wave rfl rfl rfl (by decide +kernel) ⟨Nat.le_of_ble_eq_true rfl, Nat.le_of_ble_eq_true rfl⟩) ⟨pc_blind, (fun U hU hW => ⟨rfl, trivial⟩)⟩ rfl rfl hl.1 rfl (lv_room (Nat.le_of_ble_eq_true rfl)) dX3_changesOfWave_19 ⟨Nat.le_of_ble_eq_true rfl, Nat.le_of_ble_eq_true rfl⟩) hS hP (fun H locs hP hS => ?_)
      refine lv_icmp_eq (tgt := 28) hx hb dX3_changesOfWave_22 (by decide) (fun c_22 => ?_) (fun c_22 => ?_)
      · refine lv_iinc (k := 2) (v := (nI (i + 1))) (lv' := [(2, .int (nI (i + 1))), (0, .int (nI k)), (1, .int x1)]) hx hb dX3_changesOfWave_28 hl rfl (nI_add i 1) (by decide) rfl (fun ls hl => ?_)
        refine lv_goto (tgt := 4) hx hb dX3_changesOfWave_31 (by decide) ?_
        exact ih_4 (i + 1) x1 _ _ _ (by omega) (by omega) (by first | (rw [hx1]; simp [chS, c_22]; done) | (rw [hx1]; simp [chS, c_22])) hP hS (lv_sub hl [1, 2, 0] rfl)
      · refine lv_iinc (k := 1) (v := (x1 + 1)) (lv' := [(1, .int (x1 + 1)), (0, .int (nI k)), (2, .int (nI i))]) hx hb dX3_changesOfWave_25 hl rfl rfl (by decide) rfl (fun ls hl => ?_)
        refine lv_iinc (k := 2) (v := (nI (i + 1))) (lv' := [(2, .int (nI (i + 1))), (1, .int (x1 + 1)), (0, .int (nI k))]) hx hb dX3_changesOfWave_28 hl rfl (nI_add i 1) (by decide) rfl (fun ls hl => ?_)
        refine lv_goto (tgt := 4) hx hb dX3_changesOfWave_31 (by decide) ?_
        exact ih_4 (i + 1) (x1 + 1) _ _ _ (by omega) (by omega) (by first | (rw [hx1]; simp [chS, c_22]; done) | (rw [hx1]; simp [chS, c_22])) hP hS (lv_sub hl [2, 1, 0] rfl)
set_option maxHeartbeats 4000000 in
set_option maxRecDepth 100000 in
theorem c_X3_wheelNumber (l : Launch) (D : va_G) (T : Nat → ClassId) (ad : Nat → Nat) (I : Nat → Int32) (R : Nat → Nat → Int32) (lm : Nat) (k : Nat) (w : Nat) (hm : lm < 256) (hI : I 4 = nI lm) (hk : k < 8) (hw : w < 4) : Met l yX3_wheelNumber wsX3_wheelNumber ({ frames := 3, cells := 0, slots := 0, locals := 64 }) (va_Pc [.ref (ad 0), .int (nI k), .int (nI w)] (CR D T ad I R)) (RqI (wnF (R 0) (R 1) lm k w)) 0 0 (fun _ => False) := by
  refine Met.ofW (cc := cX3_wheelNumber) (maxL := 3) (ret := (some .int)) (by decide) rfl ?_
  intro p e s m args_ below meth c s₁ B hml hv
  obtain ⟨rfl, hP, hK, hN⟩ := hv
  have hx := B.exec
  have hb := B.bytes
  have hr := B.returns
  have hts := atoms_spec (ws := wsX3_wheelNumber) B.pre
  have hown : s.vm.findClass RX3 = some m.cls := findClass_of_methodNamed B.named
  have hlocks := B.notSynchronized
  have hinX0 : ∀ w ∈ u_ws RX0 TX0 4, w ∈ wsX3_wheelNumber := by decide +kernel
  have hinX3 : ∀ w ∈ u_ws RX3 TX3 6, w ∈ wsX3_wheelNumber := by decide +kernel
  have hS : va_S (fun _ => False) s.heap s.heap [] := va_S.rf
  have hl := lv_entry ([.ref (ad 0), .int (nI k), .int (nI w)]) (n := 3) (Nat.le_of_ble_eq_true rfl)
  rw [lg_entry_eq]
  generalize (lg_sl ([.ref (ad 0), .int (nI k), .int (nI w)]) ++ List.replicate (3 - (lg_sl ([.ref (ad 0), .int (nI k), .int (nI w)])).length) Slot.unset).toArray = ls at hl ⊢
  have hl : lv_has ls 3 [(0, .ref (ad 0)), (1, .int (nI k)), (2, .int (nI w))] := hl
  refine lv_iload_n hx hb dX3_wheelNumber_0 rfl (lv_at hl 2 rfl) ?_
  rcases (show w = 0 ∨ w = 1 ∨ w = 2 ∨ w = 3 by omega) with rfl | rfl | rfl | rfl
  · refine lv_tableIn (tgt := 28) (off := 27) hx hb dX3_wheelNumber_1 (by decide) (by decide) (by decide) (by decide) ?_
    refine lv_aload_n hx hb dX3_wheelNumber_28 rfl (lv_at hl 0 rfl) ?_
    refine va_get (D := D) (ci := 3) (v := .ref (ad 1)) (C := RX3) (T := TX3) (N := 6) hx hb hts hinX3 hown hK hP 0 cw_0 rfl 0 (by decide) (hts (.fieldLink RX3 12 "SquareGears" "now" "LSquareGears$Gears;") (by decide +kernel)) (fun _ h9 => h9) rfl dX3_wheelNumber_29 ?_
    refine va_getN (D := D) (ci := 0) (v := .ref (ad 2)) (C := RX0) (T := TX0) (N := 4) hx hb hts hinX0 hown hK hP 1 cw_1 rfl 0 (by decide) (nw_use rfl (nwf_X3_66 hN)) (fun _ h9 => h9) rfl dX3_wheelNumber_32 ?_
    refine lv_iload_n hx hb dX3_wheelNumber_35 rfl (lv_at hl 1 rfl) ?_
    refine cx_iald (k := k) hx hb hK hP 2 1 cw_2 rfl (by omega) (by decide) dX3_wheelNumber_36 ?_
    exact W.iret (v := ((R 0) k)) hx hb hr (fun t ht hW => ⟨⟨((R 0) k), (), rfl, (by first | rfl | exact (lb_ne0 (by assumption)).symm | exact Eq.symm (by assumption)), trivial⟩, hS.F ht⟩) hS.2.2 dX3_wheelNumber_37
  · refine lv_tableIn (tgt := 38) (off := 37) hx hb dX3_wheelNumber_1 (by decide) (by decide) (by decide) (by decide) ?_
    refine lv_aload_n hx hb dX3_wheelNumber_38 rfl (lv_at hl 0 rfl) ?_
    refine va_get (D := D) (ci := 3) (v := .ref (ad 1)) (C := RX3) (T := TX3) (N := 6) hx hb hts hinX3 hown hK hP 0 cw_0 rfl 0 (by decide) (hts (.fieldLink RX3 12 "SquareGears" "now" "LSquareGears$Gears;") (by decide +kernel)) (fun _ h9 => h9) rfl dX3_wheelNumber_39 ?_
    refine lv_iload_n hx hb dX3_wheelNumber_42 rfl (lv_at hl 1 rfl) ?_
    refine cx_ri (va_runVN (As := [.int (nI k)]) (rest := []) ⟨hx, hb, hml, hown, hts⟩ (c_X0_isLost l D T ad I R lm k (hm) (hI) (hk)) ⟨va_cnB 1 hts gX3_wheelNumber_X0_isLost_n72 rfl rfl rfl (nwm_X3_72 hN) (hts (.initialized RX0) (by decide +kernel)) (by decide +kernel) ⟨Nat.le_of_ble_eq_true rfl, Nat.le_of_ble_eq_true rfl⟩, (hts (.instanceMethod yX0_isLost) (by decide +kernel)), (hts (.selects RX0 yX0_isLost yX0_isLost) (by decide +kernel))⟩ ⟨CR.blind, va_recv hK hP (ci := 0) (q0 := 1) rfl cw_1, (CR.pre hP hK hN rfl)⟩ rfl rfl hl.1 rfl (lv_room (Nat.le_of_ble_eq_true rfl)) dX3_wheelNumber_43 ⟨Nat.le_of_ble_eq_true rfl, Nat.le_of_ble_eq_true rfl⟩) hS hP (fun H locs hP hS => ?_)
    refine lv_if_eq (tgt := 53) hx hb dX3_wheelNumber_46 (by decide) (fun c_46 => ?_) (fun c_46 => ?_)
    · refine lv_iconst (v := 0) hx hb dX3_wheelNumber_53 (by decide) ?_
      exact W.iret (v := 0) hx hb hr (fun t ht hW => ⟨⟨0, (), rfl, (by first | rfl | exact (lb_ne0 (by assumption)).symm | exact Eq.symm (by assumption)), trivial⟩, hS.F ht⟩) hS.2.2 dX3_wheelNumber_54
    · refine lv_iconst (v := 1) hx hb dX3_wheelNumber_49 (by decide) ?_
      refine lv_goto (tgt := 54) hx hb dX3_wheelNumber_50 (by decide) ?_
      exact W.iret (v := 1) hx hb hr (fun t ht hW => ⟨⟨1, (), rfl, (by first | rfl | exact (lb_ne0 (by assumption)).symm | exact Eq.symm (by assumption)), trivial⟩, hS.F ht⟩) hS.2.2 dX3_wheelNumber_54
  · refine lv_tableIn (tgt := 55) (off := 54) hx hb dX3_wheelNumber_1 (by decide) (by decide) (by decide) (by decide) ?_
    refine lv_aload_n hx hb dX3_wheelNumber_55 rfl (lv_at hl 0 rfl) ?_
    refine va_get (D := D) (ci := 3) (v := .ref (ad 1)) (C := RX3) (T := TX3) (N := 6) hx hb hts hinX3 hown hK hP 0 cw_0 rfl 0 (by decide) (hts (.fieldLink RX3 12 "SquareGears" "now" "LSquareGears$Gears;") (by decide +kernel)) (fun _ h9 => h9) rfl dX3_wheelNumber_56 ?_
    refine lv_iload_n hx hb dX3_wheelNumber_59 rfl (lv_at hl 1 rfl) ?_
    refine cx_ri (va_runVN (As := [.int (nI k)]) (rest := []) ⟨hx, hb, hml, hown, hts⟩ (c_X0_patternAmplitude l D T ad I R k (hk)) ⟨va_cnB 1 hts gX3_wheelNumber_X0_patternAmplitude_n99 rfl rfl rfl (nwm_X3_99 hN) (hts (.initialized RX0) (by decide +kernel)) (by decide +kernel) ⟨Nat.le_of_ble_eq_true rfl, Nat.le_of_ble_eq_true rfl⟩, (hts (.instanceMethod yX0_patternAmplitude) (by decide +kernel)), (hts (.selects RX0 yX0_patternAmplitude yX0_patternAmplitude) (by decide +kernel))⟩ ⟨CR.blind, va_recv hK hP (ci := 0) (q0 := 1) rfl cw_1, (CR.pre hP hK hN rfl)⟩ rfl rfl hl.1 rfl (lv_room (Nat.le_of_ble_eq_true rfl)) dX3_wheelNumber_60 ⟨Nat.le_of_ble_eq_true rfl, Nat.le_of_ble_eq_true rfl⟩) hS hP (fun H locs hP hS => ?_)
    exact W.iret (v := (psS ((R 1)) k 8 >>> (3 : Int32))) hx hb hr (fun t ht hW => ⟨⟨(psS ((R 1)) k 8 >>> (3 : Int32)), (), rfl, (by first | rfl | exact (lb_ne0 (by assumption)).symm | exact Eq.symm (by assumption)), trivial⟩, hS.F ht⟩) hS.2.2 dX3_wheelNumber_63
  · refine lv_tableOut (tgt := 64) hx hb dX3_wheelNumber_1 (Or.inr (by decide)) (by decide) ?_
    refine lv_iload_n hx hb dX3_wheelNumber_64 rfl (lv_at hl 1 rfl) ?_
    refine cx_ri (va_runS (As := [.int (nI k)]) (rest := []) ⟨hx, hb, hml, hown, hts⟩ (c_X3_changesOfWave l  k (hk)) (va_cwS 1 hts gX3_wheelNumber_X3_changesOfWave rfl rfl rfl (by decide +kernel) ⟨Nat.le_of_ble_eq_true rfl, Nat.le_of_ble_eq_true rfl⟩) ⟨pc_blind, (fun U hU hW => ⟨rfl, trivial⟩)⟩ rfl rfl hl.1 rfl (lv_room (Nat.le_of_ble_eq_true rfl)) dX3_wheelNumber_65 ⟨Nat.le_of_ble_eq_true rfl, Nat.le_of_ble_eq_true rfl⟩) hS hP (fun H locs hP hS => ?_)
    exact W.iret (v := (chS k 7)) hx hb hr (fun t ht hW => ⟨⟨(chS k 7), (), rfl, (by first | rfl | exact (lb_ne0 (by assumption)).symm | exact Eq.symm (by assumption)), trivial⟩, hS.F ht⟩) hS.2.2 dX3_wheelNumber_68
set_option maxHeartbeats 4000000 in
set_option maxRecDepth 100000 in
theorem c_X3_pointNumber (l : Launch) (D : va_G) (T : Nat → ClassId) (ad : Nat → Nat) (I : Nat → Int32) (R : Nat → Nat → Int32) (lm : Nat) (n : Nat) (w : Nat) (hm : lm < 256) (hI : I 4 = nI lm) (hn : n < 8) (hw : w < 3) : Met l yX3_pointNumber wsX3_pointNumber ({ frames := 4, cells := 0, slots := 0, locals := 86 }) (va_Pc [.ref (ad 0), .int (nI n), .int (nI w)] (CR D T ad I R)) (RqI (pnF (R 1) (dr (R 0) lm) n w)) 0 0 (fun _ => False) := by
  refine Met.ofW (cc := cX3_pointNumber) (maxL := 3) (ret := (some .int)) (by decide) rfl ?_
  intro p e s m args_ below meth c s₁ B hml hv
  obtain ⟨rfl, hP, hK, hN⟩ := hv
  have hx := B.exec
  have hb := B.bytes
  have hr := B.returns
  have hts := atoms_spec (ws := wsX3_pointNumber) B.pre
  have hown : s.vm.findClass RX3 = some m.cls := findClass_of_methodNamed B.named
  have hlocks := B.notSynchronized
  have hinX0 : ∀ w ∈ u_ws RX0 TX0 4, w ∈ wsX3_pointNumber := by decide +kernel
  have hinX3 : ∀ w ∈ u_ws RX3 TX3 6, w ∈ wsX3_pointNumber := by decide +kernel
  have hS : va_S (fun _ => False) s.heap s.heap [] := va_S.rf
  have hl := lv_entry ([.ref (ad 0), .int (nI n), .int (nI w)]) (n := 3) (Nat.le_of_ble_eq_true rfl)
  rw [lg_entry_eq]
  generalize (lg_sl ([.ref (ad 0), .int (nI n), .int (nI w)]) ++ List.replicate (3 - (lg_sl ([.ref (ad 0), .int (nI n), .int (nI w)])).length) Slot.unset).toArray = ls at hl ⊢
  have hl : lv_has ls 3 [(0, .ref (ad 0)), (1, .int (nI n)), (2, .int (nI w))] := hl
  refine lv_iload_n hx hb dX3_pointNumber_0 rfl (lv_at hl 2 rfl) ?_
  rcases (show w = 0 ∨ w = 1 ∨ w = 2 by omega) with rfl | rfl | rfl
  · refine lv_lookup (tgt := 28) (off := 27) hx hb dX3_pointNumber_1 (by decide) (by decide) (by decide) ?_
    refine lv_aload_n hx hb dX3_pointNumber_28 rfl (lv_at hl 0 rfl) ?_
    refine va_get (D := D) (ci := 3) (v := .ref (ad 1)) (C := RX3) (T := TX3) (N := 6) hx hb hts hinX3 hown hK hP 0 cw_0 rfl 0 (by decide) (hts (.fieldLink RX3 12 "SquareGears" "now" "LSquareGears$Gears;") (by decide +kernel)) (fun _ h9 => h9) rfl dX3_pointNumber_29 ?_
    refine va_getN (D := D) (ci := 0) (v := .ref (ad 3)) (C := RX0) (T := TX0) (N := 4) hx hb hts hinX0 hown hK hP 1 cw_1 rfl 1 (by decide) (nw_use rfl (nwf_X3_93 hN)) (fun _ h9 => h9) rfl dX3_pointNumber_32 ?_
    refine lv_iload_n hx hb dX3_pointNumber_35 rfl (lv_at hl 1 rfl) ?_
    refine cx_iald (k := n) hx hb hK hP 3 1 cw_3 rfl (by omega) (by decide) dX3_pointNumber_36 ?_
    exact W.iret (v := ((R 1) n)) hx hb hr (fun t ht hW => ⟨⟨((R 1) n), (), rfl, (rfl), trivial⟩, hS.F ht⟩) hS.2.2 dX3_pointNumber_37
  · refine lv_lookup (tgt := 38) (off := 37) hx hb dX3_pointNumber_1 (by decide) (by decide) (by decide) ?_
    refine lv_aload_n hx hb dX3_pointNumber_38 rfl (lv_at hl 0 rfl) ?_
    refine va_get (D := D) (ci := 3) (v := .ref (ad 1)) (C := RX3) (T := TX3) (N := 6) hx hb hts hinX3 hown hK hP 0 cw_0 rfl 0 (by decide) (hts (.fieldLink RX3 12 "SquareGears" "now" "LSquareGears$Gears;") (by decide +kernel)) (fun _ h9 => h9) rfl dX3_pointNumber_39 ?_
    refine lv_iload_n hx hb dX3_pointNumber_42 rfl (lv_at hl 1 rfl) ?_
    refine cx_ri (va_runVN (As := [.int (nI n)]) (rest := []) ⟨hx, hb, hml, hown, hts⟩ (c_X0_differenceAt l D T ad I R lm n (hm) (hI) (hn)) ⟨va_cnB 1 hts gX3_pointNumber_X0_differenceAt_n185 rfl rfl rfl (nwm_X3_185 hN) (hts (.initialized RX0) (by decide +kernel)) (by decide +kernel) ⟨Nat.le_of_ble_eq_true rfl, Nat.le_of_ble_eq_true rfl⟩, (hts (.instanceMethod yX0_differenceAt) (by decide +kernel)), (hts (.selects RX0 yX0_differenceAt yX0_differenceAt) (by decide +kernel))⟩ ⟨CR.blind, va_recv hK hP (ci := 0) (q0 := 1) rfl cw_1, (CR.pre hP hK hN rfl)⟩ rfl rfl hl.1 rfl (lv_room (Nat.le_of_ble_eq_true rfl)) dX3_pointNumber_43 ⟨Nat.le_of_ble_eq_true rfl, Nat.le_of_ble_eq_true rfl⟩) hS hP (fun H locs hP hS => ?_)
    exact W.iret (v := ((R 1) n - trS (dr ((R 0)) lm) n 8)) hx hb hr (fun t ht hW => ⟨⟨((R 1) n - trS (dr ((R 0)) lm) n 8), (), rfl, (rfl), trivial⟩, hS.F ht⟩) hS.2.2 dX3_pointNumber_46
  · refine lv_lookup (tgt := 47) (off := 46) hx hb dX3_pointNumber_1 (by decide) (by decide) (by decide) ?_
    refine lv_aload_n hx hb dX3_pointNumber_47 rfl (lv_at hl 0 rfl) ?_
    refine va_get (D := D) (ci := 3) (v := .ref (ad 1)) (C := RX3) (T := TX3) (N := 6) hx hb hts hinX3 hown hK hP 0 cw_0 rfl 0 (by decide) (hts (.fieldLink RX3 12 "SquareGears" "now" "LSquareGears$Gears;") (by decide +kernel)) (fun _ h9 => h9) rfl dX3_pointNumber_48 ?_
    refine lv_iload_n hx hb dX3_pointNumber_51 rfl (lv_at hl 1 rfl) ?_
    refine cx_ri (va_runVN (As := [.int (nI n)]) (rest := []) ⟨hx, hb, hml, hown, hts⟩ (c_X0_jumpAt l D T ad I R lm n (hm) (hI) (hn)) ⟨va_cnB 1 hts gX3_pointNumber_X0_jumpAt_n251 rfl rfl rfl (nwm_X3_251 hN) (hts (.initialized RX0) (by decide +kernel)) (by decide +kernel) ⟨Nat.le_of_ble_eq_true rfl, Nat.le_of_ble_eq_true rfl⟩, (hts (.instanceMethod yX0_jumpAt) (by decide +kernel)), (hts (.selects RX0 yX0_jumpAt yX0_jumpAt) (by decide +kernel))⟩ ⟨CR.blind, va_recv hK hP (ci := 0) (q0 := 1) rfl cw_1, (CR.pre hP hK hN rfl)⟩ rfl rfl hl.1 rfl (lv_room (Nat.le_of_ble_eq_true rfl)) dX3_pointNumber_52 ⟨Nat.le_of_ble_eq_true rfl, Nat.le_of_ble_eq_true rfl⟩) hS hP (fun H locs hP hS => ?_)
    exact W.iret (v := (trS (dr ((R 0)) lm) ((n + 1) % 8) 8 - trS (dr ((R 0)) lm) n 8)) hx hb hr (fun t ht hW => ⟨⟨(trS (dr ((R 0)) lm) ((n + 1) % 8) 8 - trS (dr ((R 0)) lm) n 8), (), rfl, (rfl), trivial⟩, hS.F ht⟩) hS.2.2 dX3_pointNumber_55
set_option maxHeartbeats 4000000 in
set_option maxRecDepth 100000 in
theorem c_X3_greatestTrace (l : Launch) (D : va_G) (T : Nat → ClassId) (ad : Nat → Nat) (I : Nat → Int32) (R : Nat → Nat → Int32) (lm : Nat) (hm : lm < 256) (hI : I 4 = nI lm) : Met l yX3_greatestTrace wsX3_greatestTrace ({ frames := 3, cells := 0, slots := 0, locals := 65 }) (va_Pc [.ref (ad 0)] (CR D T ad I R)) (RqI (gtS (dr (R 0) lm) 7)) 0 0 (fun _ => False) := by
  refine Met.ofW (cc := cX3_greatestTrace) (maxL := 3) (ret := (some .int)) (by decide) rfl ?_
  intro p e s m args_ below meth c s₁ B hml hv
  obtain ⟨rfl, hP, hK, hN⟩ := hv
  have hx := B.exec
  have hb := B.bytes
  have hr := B.returns
  have hts := atoms_spec (ws := wsX3_greatestTrace) B.pre
  have hown : s.vm.findClass RX3 = some m.cls := findClass_of_methodNamed B.named
  have hlocks := B.notSynchronized
  have hinX3 : ∀ w ∈ u_ws RX3 TX3 6, w ∈ wsX3_greatestTrace := by decide +kernel
  have hS : va_S (fun _ => False) s.heap s.heap [] := va_S.rf
  have hl := lv_entry ([.ref (ad 0)]) (n := 3) (Nat.le_of_ble_eq_true rfl)
  rw [lg_entry_eq]
  generalize (lg_sl ([.ref (ad 0)]) ++ List.replicate (3 - (lg_sl ([.ref (ad 0)])).length) Slot.unset).toArray = ls at hl ⊢
  have hl : lv_has ls 3 [(0, .ref (ad 0))] := hl
  refine lv_aload_n hx hb dX3_greatestTrace_0 rfl (lv_at hl 0 rfl) ?_
  refine va_get (D := D) (ci := 3) (v := .ref (ad 1)) (C := RX3) (T := TX3) (N := 6) hx hb hts hinX3 hown hK hP 0 cw_0 rfl 0 (by decide) (hts (.fieldLink RX3 12 "SquareGears" "now" "LSquareGears$Gears;") (by decide +kernel)) (fun _ h9 => h9) rfl dX3_greatestTrace_1 ?_
  refine lv_iconst (v := 0) hx hb dX3_greatestTrace_4 (by decide) ?_
  refine cx_ri (va_runVN (As := [.int 0]) (rest := []) ⟨hx, hb, hml, hown, hts⟩ (c_X0_traceAt l D T ad I R lm 0 (hm) (hI) (by decide)) ⟨va_cnB 1 hts gX3_greatestTrace_X0_traceAt_n96 rfl rfl rfl (nwm_X3_96 hN) (hts (.initialized RX0) (by decide +kernel)) (by decide +kernel) ⟨Nat.le_of_ble_eq_true rfl, Nat.le_of_ble_eq_true rfl⟩, (hts (.instanceMethod yX0_traceAt) (by decide +kernel)), (hts (.selects RX0 yX0_traceAt yX0_traceAt) (by decide +kernel))⟩ ⟨CR.blind, va_recv hK hP (ci := 0) (q0 := 1) rfl cw_1, (CR.pre hP hK hN rfl)⟩ rfl rfl hl.1 rfl (lv_room (Nat.le_of_ble_eq_true rfl)) dX3_greatestTrace_5 ⟨Nat.le_of_ble_eq_true rfl, Nat.le_of_ble_eq_true rfl⟩) hS hP (fun H locs hP hS => ?_)
  refine lv_istore_n (lv' := [(1, .int (trS (dr ((R 0)) lm) 0 8)), (0, .ref (ad 0))]) hx hb dX3_greatestTrace_8 rfl hl (by decide) rfl (fun ls hl => ?_)
  refine lv_iconst (v := 1) hx hb dX3_greatestTrace_9 (by decide) ?_
  refine lv_istore_n (lv' := [(2, .int 1), (1, .int (trS (dr ((R 0)) lm) 0 8)), (0, .ref (ad 0))]) hx hb dX3_greatestTrace_10 rfl hl (by decide) rfl (fun ls hl => ?_)
  suffices ih_11 : ∀ (fu : Nat) (j : Nat) (H : Heap) (locs : List Loc) (ls : Array Slot), 7 - j < fu → (j ≤ 7) → va_P D vwCl (cw T ad I R) H →  va_S (fun _ => False) s.heap H locs → lv_has ls 3 [(0, .ref (ad 0)), (1, .int (gtS (dr (R 0) lm) j)), (2, .int (nI (j + 1)))] → W p l e (headSpec wsX3_greatestTrace ({ frames := 3, cells := 0, slots := 0, locals := 65 })).room s m ([.ref (ad 0)] : List Value).toArray below meth c H locs 0 0 (MQ below (RqI (gtS (dr (R 0) lm) 7)) ([.ref (ad 0)] : List Value).toArray s 0 0 (fun _ => False)) (F0 m 11 ls []) from
    ih_11 _ 0 _ _ _ (Nat.lt_succ_self _) (by omega) hP hS (lv_sub hl [2, 1, 0] rfl)
  intro fu
  induction fu with
  | zero => intro j H locs ls hfu; exact absurd hfu (Nat.not_lt_zero _)
  | succ fu ih_11 =>
    intro j H locs ls hfu hj hP hS hl
    refine lv_iload_n hx hb dX3_greatestTrace_11 rfl (lv_at hl 2 rfl) ?_
    refine lv_bipush (v := 8) hx hb dX3_greatestTrace_12 (by decide) ?_
    refine lv_icmp_ge (tgt := 36) hx hb dX3_greatestTrace_14 (by decide) (fun c_14 => ?_) (fun c_14 => ?_)
    · have c_14 : 8 ≤ (j + 1) := (nI_leI (a := 8) (b := (j + 1)) (by omega) (by omega)).mp c_14
      obtain rfl : j = 7 := by omega
      refine lv_iload_n hx hb dX3_greatestTrace_36 rfl (lv_at hl 1 rfl) ?_
      exact W.iret (v := (gtS (dr (R 0) lm) 7)) hx hb hr (fun t ht hW => ⟨⟨(gtS (dr (R 0) lm) 7), (), rfl, (rfl), trivial⟩, hS.F ht⟩) hS.2.2 dX3_greatestTrace_37
    · have c_14 : ¬ (8 ≤ (j + 1)) := fun h => c_14 ((nI_leI (a := 8) (b := (j + 1)) (by omega) (by omega)).mpr h)
      refine lv_iload_n hx hb dX3_greatestTrace_17 rfl (lv_at hl 1 rfl) ?_
      refine lv_aload_n hx hb dX3_greatestTrace_18 rfl (lv_at hl 0 rfl) ?_
      refine va_get (D := D) (ci := 3) (v := .ref (ad 1)) (C := RX3) (T := TX3) (N := 6) hx hb hts hinX3 hown hK hP 0 cw_0 rfl 0 (by decide) (hts (.fieldLink RX3 12 "SquareGears" "now" "LSquareGears$Gears;") (by decide +kernel)) (fun _ h9 => h9) rfl dX3_greatestTrace_19 ?_
      refine lv_iload_n hx hb dX3_greatestTrace_22 rfl (lv_at hl 2 rfl) ?_
      refine cx_ri (va_runVN (As := [.int (nI (j + 1))]) (rest := [.int (gtS (dr (R 0) lm) j)]) ⟨hx, hb, hml, hown, hts⟩ (c_X0_traceAt l D T ad I R lm (j + 1) (hm) (hI) (by omega)) ⟨va_cnB 1 hts gX3_greatestTrace_X0_traceAt_n96 rfl rfl rfl (nwm_X3_96 hN) (hts (.initialized RX0) (by decide +kernel)) (by decide +kernel) ⟨Nat.le_of_ble_eq_true rfl, Nat.le_of_ble_eq_true rfl⟩, (hts (.instanceMethod yX0_traceAt) (by decide +kernel)), (hts (.selects RX0 yX0_traceAt yX0_traceAt) (by decide +kernel))⟩ ⟨CR.blind, va_recv hK hP (ci := 0) (q0 := 1) rfl cw_1, (CR.pre hP hK hN rfl)⟩ rfl rfl hl.1 rfl (lv_room (Nat.le_of_ble_eq_true rfl)) dX3_greatestTrace_23 ⟨Nat.le_of_ble_eq_true rfl, Nat.le_of_ble_eq_true rfl⟩) hS hP (fun H locs hP hS => ?_)
      refine va_mmax hx hb (hml.trans hl.1.symm) hown (hts (.methodLink RX3 105 Lib.Math.max.name) (by decide +kernel)) (hts (.static Lib.Math.max.name) (by decide +kernel)) (hts (.initialized "java/lang/Math") (by decide +kernel)) (hts (.code Lib.Math.max.name Lib.Math.max.code 2 (some .int)) (by decide +kernel)) (Nat.le_of_ble_eq_true rfl) (Nat.le_of_ble_eq_true rfl) (Nat.zero_le _) (Nat.zero_le _) dX3_greatestTrace_26 ?_
      refine lv_istore_n (lv' := [(1, .int (if (gtS (dr (R 0) lm) j) < (trS (dr ((R 0)) lm) (j + 1) 8) then (trS (dr ((R 0)) lm) (j + 1) 8) else (gtS (dr (R 0) lm) j))), (0, .ref (ad 0)), (2, .int (nI (j + 1)))]) hx hb dX3_greatestTrace_29 rfl hl (by decide) rfl (fun ls hl => ?_)
      refine lv_iinc (k := 2) (v := (nI (j + 1 + 1))) (lv' := [(2, .int (nI (j + 1 + 1))), (1, .int (if (gtS (dr (R 0) lm) j) < (trS (dr ((R 0)) lm) (j + 1) 8) then (trS (dr ((R 0)) lm) (j + 1) 8) else (gtS (dr (R 0) lm) j))), (0, .ref (ad 0))]) hx hb dX3_greatestTrace_30 hl rfl (nI_add (j + 1) 1) (by decide) rfl (fun ls hl => ?_)
      refine lv_goto (tgt := 11) hx hb dX3_greatestTrace_33 (by decide) ?_
      exact ih_11 (j + 1) _ _ _ (by omega) (by omega) hP hS (lv_sub hl [2, 1, 0] rfl)
set_option maxHeartbeats 4000000 in
set_option maxRecDepth 100000 in
theorem c_X3_leastTrace (l : Launch) (D : va_G) (T : Nat → ClassId) (ad : Nat → Nat) (I : Nat → Int32) (R : Nat → Nat → Int32) (lm : Nat) (hm : lm < 256) (hI : I 4 = nI lm) : Met l yX3_leastTrace wsX3_leastTrace ({ frames := 3, cells := 0, slots := 0, locals := 65 }) (va_Pc [.ref (ad 0)] (CR D T ad I R)) (RqI (ltS (dr (R 0) lm) 7)) 0 0 (fun _ => False) := by
  refine Met.ofW (cc := cX3_leastTrace) (maxL := 3) (ret := (some .int)) (by decide) rfl ?_
  intro p e s m args_ below meth c s₁ B hml hv
  obtain ⟨rfl, hP, hK, hN⟩ := hv
  have hx := B.exec
  have hb := B.bytes
  have hr := B.returns
  have hts := atoms_spec (ws := wsX3_leastTrace) B.pre
  have hown : s.vm.findClass RX3 = some m.cls := findClass_of_methodNamed B.named
  have hlocks := B.notSynchronized
  have hinX3 : ∀ w ∈ u_ws RX3 TX3 6, w ∈ wsX3_leastTrace := by decide +kernel
  have hS : va_S (fun _ => False) s.heap s.heap [] := va_S.rf
  have hl := lv_entry ([.ref (ad 0)]) (n := 3) (Nat.le_of_ble_eq_true rfl)
  rw [lg_entry_eq]
  generalize (lg_sl ([.ref (ad 0)]) ++ List.replicate (3 - (lg_sl ([.ref (ad 0)])).length) Slot.unset).toArray = ls at hl ⊢
  have hl : lv_has ls 3 [(0, .ref (ad 0))] := hl
  refine lv_aload_n hx hb dX3_leastTrace_0 rfl (lv_at hl 0 rfl) ?_
  refine va_get (D := D) (ci := 3) (v := .ref (ad 1)) (C := RX3) (T := TX3) (N := 6) hx hb hts hinX3 hown hK hP 0 cw_0 rfl 0 (by decide) (hts (.fieldLink RX3 12 "SquareGears" "now" "LSquareGears$Gears;") (by decide +kernel)) (fun _ h9 => h9) rfl dX3_leastTrace_1 ?_
  refine lv_iconst (v := 0) hx hb dX3_leastTrace_4 (by decide) ?_
  refine cx_ri (va_runVN (As := [.int 0]) (rest := []) ⟨hx, hb, hml, hown, hts⟩ (c_X0_traceAt l D T ad I R lm 0 (hm) (hI) (by decide)) ⟨va_cnB 1 hts gX3_leastTrace_X0_traceAt_n96 rfl rfl rfl (nwm_X3_96 hN) (hts (.initialized RX0) (by decide +kernel)) (by decide +kernel) ⟨Nat.le_of_ble_eq_true rfl, Nat.le_of_ble_eq_true rfl⟩, (hts (.instanceMethod yX0_traceAt) (by decide +kernel)), (hts (.selects RX0 yX0_traceAt yX0_traceAt) (by decide +kernel))⟩ ⟨CR.blind, va_recv hK hP (ci := 0) (q0 := 1) rfl cw_1, (CR.pre hP hK hN rfl)⟩ rfl rfl hl.1 rfl (lv_room (Nat.le_of_ble_eq_true rfl)) dX3_leastTrace_5 ⟨Nat.le_of_ble_eq_true rfl, Nat.le_of_ble_eq_true rfl⟩) hS hP (fun H locs hP hS => ?_)
  refine lv_istore_n (lv' := [(1, .int (trS (dr ((R 0)) lm) 0 8)), (0, .ref (ad 0))]) hx hb dX3_leastTrace_8 rfl hl (by decide) rfl (fun ls hl => ?_)
  refine lv_iconst (v := 1) hx hb dX3_leastTrace_9 (by decide) ?_
  refine lv_istore_n (lv' := [(2, .int 1), (1, .int (trS (dr ((R 0)) lm) 0 8)), (0, .ref (ad 0))]) hx hb dX3_leastTrace_10 rfl hl (by decide) rfl (fun ls hl => ?_)
  suffices ih_11 : ∀ (fu : Nat) (j : Nat) (H : Heap) (locs : List Loc) (ls : Array Slot), 7 - j < fu → (j ≤ 7) → va_P D vwCl (cw T ad I R) H →  va_S (fun _ => False) s.heap H locs → lv_has ls 3 [(0, .ref (ad 0)), (1, .int (ltS (dr (R 0) lm) j)), (2, .int (nI (j + 1)))] → W p l e (headSpec wsX3_leastTrace ({ frames := 3, cells := 0, slots := 0, locals := 65 })).room s m ([.ref (ad 0)] : List Value).toArray below meth c H locs 0 0 (MQ below (RqI (ltS (dr (R 0) lm) 7)) ([.ref (ad 0)] : List Value).toArray s 0 0 (fun _ => False)) (F0 m 11 ls []) from
    ih_11 _ 0 _ _ _ (Nat.lt_succ_self _) (by omega) hP hS (lv_sub hl [2, 1, 0] rfl)
  intro fu
  induction fu with
  | zero => intro j H locs ls hfu; exact absurd hfu (Nat.not_lt_zero _)
  | succ fu ih_11 =>
    intro j H locs ls hfu hj hP hS hl
    refine lv_iload_n hx hb dX3_leastTrace_11 rfl (lv_at hl 2 rfl) ?_
    refine lv_bipush (v := 8) hx hb dX3_leastTrace_12 (by decide) ?_
    refine lv_icmp_ge (tgt := 36) hx hb dX3_leastTrace_14 (by decide) (fun c_14 => ?_) (fun c_14 => ?_)
    · have c_14 : 8 ≤ (j + 1) := (nI_leI (a := 8) (b := (j + 1)) (by omega) (by omega)).mp c_14
      obtain rfl : j = 7 := by omega
      refine lv_iload_n hx hb dX3_leastTrace_36 rfl (lv_at hl 1 rfl) ?_
      exact W.iret (v := (ltS (dr (R 0) lm) 7)) hx hb hr (fun t ht hW => ⟨⟨(ltS (dr (R 0) lm) 7), (), rfl, (rfl), trivial⟩, hS.F ht⟩) hS.2.2 dX3_leastTrace_37
    · have c_14 : ¬ (8 ≤ (j + 1)) := fun h => c_14 ((nI_leI (a := 8) (b := (j + 1)) (by omega) (by omega)).mpr h)
      refine lv_iload_n hx hb dX3_leastTrace_17 rfl (lv_at hl 1 rfl) ?_
      refine lv_aload_n hx hb dX3_leastTrace_18 rfl (lv_at hl 0 rfl) ?_
      refine va_get (D := D) (ci := 3) (v := .ref (ad 1)) (C := RX3) (T := TX3) (N := 6) hx hb hts hinX3 hown hK hP 0 cw_0 rfl 0 (by decide) (hts (.fieldLink RX3 12 "SquareGears" "now" "LSquareGears$Gears;") (by decide +kernel)) (fun _ h9 => h9) rfl dX3_leastTrace_19 ?_
      refine lv_iload_n hx hb dX3_leastTrace_22 rfl (lv_at hl 2 rfl) ?_
      refine cx_ri (va_runVN (As := [.int (nI (j + 1))]) (rest := [.int (ltS (dr (R 0) lm) j)]) ⟨hx, hb, hml, hown, hts⟩ (c_X0_traceAt l D T ad I R lm (j + 1) (hm) (hI) (by omega)) ⟨va_cnB 1 hts gX3_leastTrace_X0_traceAt_n96 rfl rfl rfl (nwm_X3_96 hN) (hts (.initialized RX0) (by decide +kernel)) (by decide +kernel) ⟨Nat.le_of_ble_eq_true rfl, Nat.le_of_ble_eq_true rfl⟩, (hts (.instanceMethod yX0_traceAt) (by decide +kernel)), (hts (.selects RX0 yX0_traceAt yX0_traceAt) (by decide +kernel))⟩ ⟨CR.blind, va_recv hK hP (ci := 0) (q0 := 1) rfl cw_1, (CR.pre hP hK hN rfl)⟩ rfl rfl hl.1 rfl (lv_room (Nat.le_of_ble_eq_true rfl)) dX3_leastTrace_23 ⟨Nat.le_of_ble_eq_true rfl, Nat.le_of_ble_eq_true rfl⟩) hS hP (fun H locs hP hS => ?_)
      refine va_mmin hx hb (hml.trans hl.1.symm) hown (hts (.methodLink RX3 102 Lib.Math.min.name) (by decide +kernel)) (hts (.static Lib.Math.min.name) (by decide +kernel)) (hts (.initialized "java/lang/Math") (by decide +kernel)) (hts (.code Lib.Math.min.name Lib.Math.min.code 2 (some .int)) (by decide +kernel)) (Nat.le_of_ble_eq_true rfl) (Nat.le_of_ble_eq_true rfl) (Nat.zero_le _) (Nat.zero_le _) dX3_leastTrace_26 ?_
      refine lv_istore_n (lv' := [(1, .int (if (trS (dr ((R 0)) lm) (j + 1) 8) < (ltS (dr (R 0) lm) j) then (trS (dr ((R 0)) lm) (j + 1) 8) else (ltS (dr (R 0) lm) j))), (0, .ref (ad 0)), (2, .int (nI (j + 1)))]) hx hb dX3_leastTrace_29 rfl hl (by decide) rfl (fun ls hl => ?_)
      refine lv_iinc (k := 2) (v := (nI (j + 1 + 1))) (lv' := [(2, .int (nI (j + 1 + 1))), (1, .int (if (trS (dr ((R 0)) lm) (j + 1) 8) < (ltS (dr (R 0) lm) j) then (trS (dr ((R 0)) lm) (j + 1) 8) else (ltS (dr (R 0) lm) j))), (0, .ref (ad 0))]) hx hb dX3_leastTrace_30 hl rfl (nI_add (j + 1) 1) (by decide) rfl (fun ls hl => ?_)
      refine lv_goto (tgt := 11) hx hb dX3_leastTrace_33 (by decide) ?_
      exact ih_11 (j + 1) _ _ _ (by omega) (by omega) hP hS (lv_sub hl [2, 1, 0] rfl)
set_option maxHeartbeats 4000000 in
set_option maxRecDepth 100000 in
theorem c_X3_greatestDifference (l : Launch) (D : va_G) (T : Nat → ClassId) (ad : Nat → Nat) (I : Nat → Int32) (R : Nat → Nat → Int32) (lm : Nat) (hm : lm < 256) (hI : I 4 = nI lm) : Met l yX3_greatestDifference wsX3_greatestDifference ({ frames := 4, cells := 0, slots := 0, locals := 86 }) (va_Pc [.ref (ad 0)] (CR D T ad I R)) (RqI (gaS (diF (R 1) (dr (R 0) lm)) 8)) 0 0 (fun _ => False) := by
  refine Met.ofW (cc := cX3_greatestDifference) (maxL := 3) (ret := (some .int)) (by decide) rfl ?_
  intro p e s m args_ below meth c s₁ B hml hv
  obtain ⟨rfl, hP, hK, hN⟩ := hv
  have hx := B.exec
  have hb := B.bytes
  have hr := B.returns
  have hts := atoms_spec (ws := wsX3_greatestDifference) B.pre
  have hown : s.vm.findClass RX3 = some m.cls := findClass_of_methodNamed B.named
  have hlocks := B.notSynchronized
  have hinX3 : ∀ w ∈ u_ws RX3 TX3 6, w ∈ wsX3_greatestDifference := by decide +kernel
  have hS : va_S (fun _ => False) s.heap s.heap [] := va_S.rf
  have hl := lv_entry ([.ref (ad 0)]) (n := 3) (Nat.le_of_ble_eq_true rfl)
  rw [lg_entry_eq]
  generalize (lg_sl ([.ref (ad 0)]) ++ List.replicate (3 - (lg_sl ([.ref (ad 0)])).length) Slot.unset).toArray = ls at hl ⊢
  have hl : lv_has ls 3 [(0, .ref (ad 0))] := hl
  refine lv_iconst (v := 0) hx hb dX3_greatestDifference_0 (by decide) ?_
  refine lv_istore_n (lv' := [(1, .int 0), (0, .ref (ad 0))]) hx hb dX3_greatestDifference_1 rfl hl (by decide) rfl (fun ls hl => ?_)
  refine lv_iconst (v := 0) hx hb dX3_greatestDifference_2 (by decide) ?_
  refine lv_istore_n (lv' := [(2, .int 0), (1, .int 0), (0, .ref (ad 0))]) hx hb dX3_greatestDifference_3 rfl hl (by decide) rfl (fun ls hl => ?_)
  suffices ih_4 : ∀ (fu : Nat) (i : Nat) (H : Heap) (locs : List Loc) (ls : Array Slot), 8 - i < fu → (i ≤ 8) → va_P D vwCl (cw T ad I R) H →  va_S (fun _ => False) s.heap H locs → lv_has ls 3 [(0, .ref (ad 0)), (1, .int (gaS (diF (R 1) (dr (R 0) lm)) i)), (2, .int (nI i))] → W p l e (headSpec wsX3_greatestDifference ({ frames := 4, cells := 0, slots := 0, locals := 86 })).room s m ([.ref (ad 0)] : List Value).toArray below meth c H locs 0 0 (MQ below (RqI (gaS (diF (R 1) (dr (R 0) lm)) 8)) ([.ref (ad 0)] : List Value).toArray s 0 0 (fun _ => False)) (F0 m 4 ls []) from
    ih_4 _ 0 _ _ _ (Nat.lt_succ_self _) (by omega) hP hS (lv_sub hl [2, 1, 0] rfl)
  intro fu
  induction fu with
  | zero => intro i H locs ls hfu; exact absurd hfu (Nat.not_lt_zero _)
  | succ fu ih_4 =>
    intro i H locs ls hfu hi hP hS hl
    refine lv_iload_n hx hb dX3_greatestDifference_4 rfl (lv_at hl 2 rfl) ?_
    refine lv_bipush (v := 8) hx hb dX3_greatestDifference_5 (by decide) ?_
    refine lv_icmp_ge (tgt := 32) hx hb dX3_greatestDifference_7 (by decide) (fun c_7 => ?_) (fun c_7 => ?_)
    · have c_7 : 8 ≤ i := (nI_leI (a := 8) (b := i) (by omega) (by omega)).mp c_7
      obtain rfl : i = 8 := by omega
      refine lv_iload_n hx hb dX3_greatestDifference_32 rfl (lv_at hl 1 rfl) ?_
      exact W.iret (v := (gaS (diF (R 1) (dr (R 0) lm)) 8)) hx hb hr (fun t ht hW => ⟨⟨(gaS (diF (R 1) (dr (R 0) lm)) 8), (), rfl, (rfl), trivial⟩, hS.F ht⟩) hS.2.2 dX3_greatestDifference_33
    · have c_7 : ¬ (8 ≤ i) := fun h => c_7 ((nI_leI (a := 8) (b := i) (by omega) (by omega)).mpr h)
      refine lv_iload_n hx hb dX3_greatestDifference_10 rfl (lv_at hl 1 rfl) ?_
      refine lv_aload_n hx hb dX3_greatestDifference_11 rfl (lv_at hl 0 rfl) ?_
      refine va_get (D := D) (ci := 3) (v := .ref (ad 1)) (C := RX3) (T := TX3) (N := 6) hx hb hts hinX3 hown hK hP 0 cw_0 rfl 0 (by decide) (hts (.fieldLink RX3 12 "SquareGears" "now" "LSquareGears$Gears;") (by decide +kernel)) (fun _ h9 => h9) rfl dX3_greatestDifference_12 ?_
      refine lv_iload_n hx hb dX3_greatestDifference_15 rfl (lv_at hl 2 rfl) ?_
      refine cx_ri (va_runVN (As := [.int (nI i)]) (rest := [.int (gaS (diF (R 1) (dr (R 0) lm)) i)]) ⟨hx, hb, hml, hown, hts⟩ (c_X0_differenceAt l D T ad I R lm i (hm) (hI) (by omega)) ⟨va_cnB 1 hts gX3_greatestDifference_X0_differenceAt_n185 rfl rfl rfl (nwm_X3_185 hN) (hts (.initialized RX0) (by decide +kernel)) (by decide +kernel) ⟨Nat.le_of_ble_eq_true rfl, Nat.le_of_ble_eq_true rfl⟩, (hts (.instanceMethod yX0_differenceAt) (by decide +kernel)), (hts (.selects RX0 yX0_differenceAt yX0_differenceAt) (by decide +kernel))⟩ ⟨CR.blind, va_recv hK hP (ci := 0) (q0 := 1) rfl cw_1, (CR.pre hP hK hN rfl)⟩ rfl rfl hl.1 rfl (lv_room (Nat.le_of_ble_eq_true rfl)) dX3_greatestDifference_16 ⟨Nat.le_of_ble_eq_true rfl, Nat.le_of_ble_eq_true rfl⟩) hS hP (fun H locs hP hS => ?_)
      refine va_mabs hx hb (hml.trans hl.1.symm) hown (hts (.methodLink RX3 83 Lib.Math.abs.name) (by decide +kernel)) (hts (.static Lib.Math.abs.name) (by decide +kernel)) (hts (.initialized "java/lang/Math") (by decide +kernel)) (hts (.code Lib.Math.abs.name Lib.Math.abs.code 1 (some .int)) (by decide +kernel)) (Nat.le_of_ble_eq_true rfl) (Nat.le_of_ble_eq_true rfl) (Nat.zero_le _) (Nat.zero_le _) dX3_greatestDifference_19 ?_
      refine va_mmax hx hb (hml.trans hl.1.symm) hown (hts (.methodLink RX3 105 Lib.Math.max.name) (by decide +kernel)) (hts (.static Lib.Math.max.name) (by decide +kernel)) (hts (.initialized "java/lang/Math") (by decide +kernel)) (hts (.code Lib.Math.max.name Lib.Math.max.code 2 (some .int)) (by decide +kernel)) (Nat.le_of_ble_eq_true rfl) (Nat.le_of_ble_eq_true rfl) (Nat.zero_le _) (Nat.zero_le _) dX3_greatestDifference_22 ?_
      refine lv_istore_n (lv' := [(1, .int (if (gaS (diF (R 1) (dr (R 0) lm)) i) < (if 0 ≤ ((R 1) i - trS (dr ((R 0)) lm) i 8) then ((R 1) i - trS (dr ((R 0)) lm) i 8) else 0 - ((R 1) i - trS (dr ((R 0)) lm) i 8)) then (if 0 ≤ ((R 1) i - trS (dr ((R 0)) lm) i 8) then ((R 1) i - trS (dr ((R 0)) lm) i 8) else 0 - ((R 1) i - trS (dr ((R 0)) lm) i 8)) else (gaS (diF (R 1) (dr (R 0) lm)) i))), (0, .ref (ad 0)), (2, .int (nI i))]) hx hb dX3_greatestDifference_25 rfl hl (by decide) rfl (fun ls hl => ?_)
      refine lv_iinc (k := 2) (v := (nI (i + 1))) (lv' := [(2, .int (nI (i + 1))), (1, .int (if (gaS (diF (R 1) (dr (R 0) lm)) i) < (if 0 ≤ ((R 1) i - trS (dr ((R 0)) lm) i 8) then ((R 1) i - trS (dr ((R 0)) lm) i 8) else 0 - ((R 1) i - trS (dr ((R 0)) lm) i 8)) then (if 0 ≤ ((R 1) i - trS (dr ((R 0)) lm) i 8) then ((R 1) i - trS (dr ((R 0)) lm) i 8) else 0 - ((R 1) i - trS (dr ((R 0)) lm) i 8)) else (gaS (diF (R 1) (dr (R 0) lm)) i))), (0, .ref (ad 0))]) hx hb dX3_greatestDifference_26 hl rfl (nI_add i 1) (by decide) rfl (fun ls hl => ?_)
      refine lv_goto (tgt := 4) hx hb dX3_greatestDifference_29 (by decide) ?_
      exact ih_4 (i + 1) _ _ _ (by omega) (by omega) hP hS (lv_sub hl [2, 1, 0] rfl)
set_option maxHeartbeats 4000000 in
set_option maxRecDepth 100000 in
theorem c_X3_greatestJump (l : Launch) (D : va_G) (T : Nat → ClassId) (ad : Nat → Nat) (I : Nat → Int32) (R : Nat → Nat → Int32) (lm : Nat) (hm : lm < 256) (hI : I 4 = nI lm) : Met l yX3_greatestJump wsX3_greatestJump ({ frames := 4, cells := 0, slots := 0, locals := 86 }) (va_Pc [.ref (ad 0)] (CR D T ad I R)) (RqI (gaS (juF (dr (R 0) lm)) 8)) 0 0 (fun _ => False) := by
  refine Met.ofW (cc := cX3_greatestJump) (maxL := 3) (ret := (some .int)) (by decide) rfl ?_
  intro p e s m args_ below meth c s₁ B hml hv
  obtain ⟨rfl, hP, hK, hN⟩ := hv
  have hx := B.exec
  have hb := B.bytes
  have hr := B.returns
  have hts := atoms_spec (ws := wsX3_greatestJump) B.pre
  have hown : s.vm.findClass RX3 = some m.cls := findClass_of_methodNamed B.named
  have hlocks := B.notSynchronized
  have hinX3 : ∀ w ∈ u_ws RX3 TX3 6, w ∈ wsX3_greatestJump := by decide +kernel
  have hS : va_S (fun _ => False) s.heap s.heap [] := va_S.rf
  have hl := lv_entry ([.ref (ad 0)]) (n := 3) (Nat.le_of_ble_eq_true rfl)
  rw [lg_entry_eq]
  generalize (lg_sl ([.ref (ad 0)]) ++ List.replicate (3 - (lg_sl ([.ref (ad 0)])).length) Slot.unset).toArray = ls at hl ⊢
  have hl : lv_has ls 3 [(0, .ref (ad 0))] := hl
  refine lv_iconst (v := 0) hx hb dX3_greatestJump_0 (by decide) ?_
  refine lv_istore_n (lv' := [(1, .int 0), (0, .ref (ad 0))]) hx hb dX3_greatestJump_1 rfl hl (by decide) rfl (fun ls hl => ?_)
  refine lv_iconst (v := 0) hx hb dX3_greatestJump_2 (by decide) ?_
  refine lv_istore_n (lv' := [(2, .int 0), (1, .int 0), (0, .ref (ad 0))]) hx hb dX3_greatestJump_3 rfl hl (by decide) rfl (fun ls hl => ?_)
  suffices ih_4 : ∀ (fu : Nat) (i : Nat) (H : Heap) (locs : List Loc) (ls : Array Slot), 8 - i < fu → (i ≤ 8) → va_P D vwCl (cw T ad I R) H →  va_S (fun _ => False) s.heap H locs → lv_has ls 3 [(0, .ref (ad 0)), (1, .int (gaS (juF (dr (R 0) lm)) i)), (2, .int (nI i))] → W p l e (headSpec wsX3_greatestJump ({ frames := 4, cells := 0, slots := 0, locals := 86 })).room s m ([.ref (ad 0)] : List Value).toArray below meth c H locs 0 0 (MQ below (RqI (gaS (juF (dr (R 0) lm)) 8)) ([.ref (ad 0)] : List Value).toArray s 0 0 (fun _ => False)) (F0 m 4 ls []) from
    ih_4 _ 0 _ _ _ (Nat.lt_succ_self _) (by omega) hP hS (lv_sub hl [2, 1, 0] rfl)
  intro fu
  induction fu with
  | zero => intro i H locs ls hfu; exact absurd hfu (Nat.not_lt_zero _)
  | succ fu ih_4 =>
    intro i H locs ls hfu hi hP hS hl
    refine lv_iload_n hx hb dX3_greatestJump_4 rfl (lv_at hl 2 rfl) ?_
    refine lv_bipush (v := 8) hx hb dX3_greatestJump_5 (by decide) ?_
    refine lv_icmp_ge (tgt := 32) hx hb dX3_greatestJump_7 (by decide) (fun c_7 => ?_) (fun c_7 => ?_)
    · have c_7 : 8 ≤ i := (nI_leI (a := 8) (b := i) (by omega) (by omega)).mp c_7
      obtain rfl : i = 8 := by omega
      refine lv_iload_n hx hb dX3_greatestJump_32 rfl (lv_at hl 1 rfl) ?_
      exact W.iret (v := (gaS (juF (dr (R 0) lm)) 8)) hx hb hr (fun t ht hW => ⟨⟨(gaS (juF (dr (R 0) lm)) 8), (), rfl, (rfl), trivial⟩, hS.F ht⟩) hS.2.2 dX3_greatestJump_33
    · have c_7 : ¬ (8 ≤ i) := fun h => c_7 ((nI_leI (a := 8) (b := i) (by omega) (by omega)).mpr h)
      refine lv_iload_n hx hb dX3_greatestJump_10 rfl (lv_at hl 1 rfl) ?_
      refine lv_aload_n hx hb dX3_greatestJump_11 rfl (lv_at hl 0 rfl) ?_
      refine va_get (D := D) (ci := 3) (v := .ref (ad 1)) (C := RX3) (T := TX3) (N := 6) hx hb hts hinX3 hown hK hP 0 cw_0 rfl 0 (by decide) (hts (.fieldLink RX3 12 "SquareGears" "now" "LSquareGears$Gears;") (by decide +kernel)) (fun _ h9 => h9) rfl dX3_greatestJump_12 ?_
      refine lv_iload_n hx hb dX3_greatestJump_15 rfl (lv_at hl 2 rfl) ?_
      refine cx_ri (va_runVN (As := [.int (nI i)]) (rest := [.int (gaS (juF (dr (R 0) lm)) i)]) ⟨hx, hb, hml, hown, hts⟩ (c_X0_jumpAt l D T ad I R lm i (hm) (hI) (by omega)) ⟨va_cnB 1 hts gX3_greatestJump_X0_jumpAt_n251 rfl rfl rfl (nwm_X3_251 hN) (hts (.initialized RX0) (by decide +kernel)) (by decide +kernel) ⟨Nat.le_of_ble_eq_true rfl, Nat.le_of_ble_eq_true rfl⟩, (hts (.instanceMethod yX0_jumpAt) (by decide +kernel)), (hts (.selects RX0 yX0_jumpAt yX0_jumpAt) (by decide +kernel))⟩ ⟨CR.blind, va_recv hK hP (ci := 0) (q0 := 1) rfl cw_1, (CR.pre hP hK hN rfl)⟩ rfl rfl hl.1 rfl (lv_room (Nat.le_of_ble_eq_true rfl)) dX3_greatestJump_16 ⟨Nat.le_of_ble_eq_true rfl, Nat.le_of_ble_eq_true rfl⟩) hS hP (fun H locs hP hS => ?_)
      refine va_mabs hx hb (hml.trans hl.1.symm) hown (hts (.methodLink RX3 83 Lib.Math.abs.name) (by decide +kernel)) (hts (.static Lib.Math.abs.name) (by decide +kernel)) (hts (.initialized "java/lang/Math") (by decide +kernel)) (hts (.code Lib.Math.abs.name Lib.Math.abs.code 1 (some .int)) (by decide +kernel)) (Nat.le_of_ble_eq_true rfl) (Nat.le_of_ble_eq_true rfl) (Nat.zero_le _) (Nat.zero_le _) dX3_greatestJump_19 ?_
      refine va_mmax hx hb (hml.trans hl.1.symm) hown (hts (.methodLink RX3 105 Lib.Math.max.name) (by decide +kernel)) (hts (.static Lib.Math.max.name) (by decide +kernel)) (hts (.initialized "java/lang/Math") (by decide +kernel)) (hts (.code Lib.Math.max.name Lib.Math.max.code 2 (some .int)) (by decide +kernel)) (Nat.le_of_ble_eq_true rfl) (Nat.le_of_ble_eq_true rfl) (Nat.zero_le _) (Nat.zero_le _) dX3_greatestJump_22 ?_
      refine lv_istore_n (lv' := [(1, .int (if (gaS (juF (dr (R 0) lm)) i) < (if 0 ≤ (trS (dr ((R 0)) lm) ((i + 1) % 8) 8 - trS (dr ((R 0)) lm) i 8) then (trS (dr ((R 0)) lm) ((i + 1) % 8) 8 - trS (dr ((R 0)) lm) i 8) else 0 - (trS (dr ((R 0)) lm) ((i + 1) % 8) 8 - trS (dr ((R 0)) lm) i 8)) then (if 0 ≤ (trS (dr ((R 0)) lm) ((i + 1) % 8) 8 - trS (dr ((R 0)) lm) i 8) then (trS (dr ((R 0)) lm) ((i + 1) % 8) 8 - trS (dr ((R 0)) lm) i 8) else 0 - (trS (dr ((R 0)) lm) ((i + 1) % 8) 8 - trS (dr ((R 0)) lm) i 8)) else (gaS (juF (dr (R 0) lm)) i))), (0, .ref (ad 0)), (2, .int (nI i))]) hx hb dX3_greatestJump_25 rfl hl (by decide) rfl (fun ls hl => ?_)
      refine lv_iinc (k := 2) (v := (nI (i + 1))) (lv' := [(2, .int (nI (i + 1))), (1, .int (if (gaS (juF (dr (R 0) lm)) i) < (if 0 ≤ (trS (dr ((R 0)) lm) ((i + 1) % 8) 8 - trS (dr ((R 0)) lm) i 8) then (trS (dr ((R 0)) lm) ((i + 1) % 8) 8 - trS (dr ((R 0)) lm) i 8) else 0 - (trS (dr ((R 0)) lm) ((i + 1) % 8) 8 - trS (dr ((R 0)) lm) i 8)) then (if 0 ≤ (trS (dr ((R 0)) lm) ((i + 1) % 8) 8 - trS (dr ((R 0)) lm) i 8) then (trS (dr ((R 0)) lm) ((i + 1) % 8) 8 - trS (dr ((R 0)) lm) i 8) else 0 - (trS (dr ((R 0)) lm) ((i + 1) % 8) 8 - trS (dr ((R 0)) lm) i 8)) else (gaS (juF (dr (R 0) lm)) i))), (0, .ref (ad 0))]) hx hb dX3_greatestJump_26 hl rfl (nI_add i 1) (by decide) rfl (fun ls hl => ?_)
      refine lv_goto (tgt := 4) hx hb dX3_greatestJump_29 (by decide) ?_
      exact ih_4 (i + 1) _ _ _ (by omega) (by omega) hP hS (lv_sub hl [2, 1, 0] rfl)
set_option maxHeartbeats 4000000 in
set_option maxRecDepth 100000 in
theorem c_X3_overshoot (l : Launch) (D : va_G) (T : Nat → ClassId) (ad : Nat → Nat) (I : Nat → Int32) (R : Nat → Nat → Int32) (lm : Nat) (hm : lm < 256) (hI : I 4 = nI lm) : Met l yX3_overshoot wsX3_overshoot ({ frames := 4, cells := 0, slots := 0, locals := 87 }) (va_Pc [.ref (ad 0)] (CR D T ad I R)) (RqI (ovF (dr (R 0) lm))) 0 0 (fun _ => False) := by
  refine Met.ofW (cc := cX3_overshoot) (maxL := 1) (ret := (some .int)) (by decide) rfl ?_
  intro p e s m args_ below meth c s₁ B hml hv
  obtain ⟨rfl, hP, hK, hN⟩ := hv
  have hx := B.exec
  have hb := B.bytes
  have hr := B.returns
  have hts := atoms_spec (ws := wsX3_overshoot) B.pre
  have hown : s.vm.findClass RX3 = some m.cls := findClass_of_methodNamed B.named
  have hlocks := B.notSynchronized
  have hinX3 : ∀ w ∈ u_ws RX3 TX3 6, w ∈ wsX3_overshoot := by decide +kernel
  have hS : va_S (fun _ => False) s.heap s.heap [] := va_S.rf
  have hl := lv_entry ([.ref (ad 0)]) (n := 1) (Nat.le_of_ble_eq_true rfl)
  rw [lg_entry_eq]
  generalize (lg_sl ([.ref (ad 0)]) ++ List.replicate (1 - (lg_sl ([.ref (ad 0)])).length) Slot.unset).toArray = ls at hl ⊢
  have hl : lv_has ls 1 [(0, .ref (ad 0))] := hl
  refine lv_aload_n hx hb dX3_overshoot_0 rfl (lv_at hl 0 rfl) ?_
  refine cx_ri (va_runV (As := []) (rest := []) ⟨hx, hb, hml, hown, hts⟩ (c_X3_greatestTrace l D T ad I R lm (hm) (hI)) (cwV 0 hts gX3_overshoot_X3_greatestTrace rfl rfl rfl (by decide +kernel) ⟨Nat.le_of_ble_eq_true rfl, Nat.le_of_ble_eq_true rfl⟩) ⟨CR.blind, va_recv hK hP (ci := 3) (q0 := 0) rfl cw_0, (CR.pre hP hK hN rfl)⟩ rfl rfl hl.1 rfl (lv_room (Nat.le_of_ble_eq_true rfl)) dX3_overshoot_1 ⟨Nat.le_of_ble_eq_true rfl, Nat.le_of_ble_eq_true rfl⟩) hS hP (fun H locs hP hS => ?_)
  refine lv_aload_n hx hb dX3_overshoot_4 rfl (lv_at hl 0 rfl) ?_
  refine cx_ri (va_runV (As := []) (rest := [.int (gtS (dr ((R 0)) lm) 7)]) ⟨hx, hb, hml, hown, hts⟩ (c_X3_leastTrace l D T ad I R lm (hm) (hI)) (cwV 0 hts gX3_overshoot_X3_leastTrace rfl rfl rfl (by decide +kernel) ⟨Nat.le_of_ble_eq_true rfl, Nat.le_of_ble_eq_true rfl⟩) ⟨CR.blind, va_recv hK hP (ci := 3) (q0 := 0) rfl cw_0, (CR.pre hP hK hN rfl)⟩ rfl rfl hl.1 rfl (lv_room (Nat.le_of_ble_eq_true rfl)) dX3_overshoot_5 ⟨Nat.le_of_ble_eq_true rfl, Nat.le_of_ble_eq_true rfl⟩) hS hP (fun H locs hP hS => ?_)
  refine lv_ineg hx hb dX3_overshoot_8 ?_
  refine va_mmax hx hb (hml.trans hl.1.symm) hown (hts (.methodLink RX3 105 Lib.Math.max.name) (by decide +kernel)) (hts (.static Lib.Math.max.name) (by decide +kernel)) (hts (.initialized "java/lang/Math") (by decide +kernel)) (hts (.code Lib.Math.max.name Lib.Math.max.code 2 (some .int)) (by decide +kernel)) (Nat.le_of_ble_eq_true rfl) (Nat.le_of_ble_eq_true rfl) (Nat.zero_le _) (Nat.zero_le _) dX3_overshoot_9 ?_
  refine lv_aload_n hx hb dX3_overshoot_12 rfl (lv_at hl 0 rfl) ?_
  refine va_get (D := D) (ci := 3) (v := .ref (ad 1)) (C := RX3) (T := TX3) (N := 6) hx hb hts hinX3 hown hK hP 0 cw_0 rfl 0 (by decide) (hts (.fieldLink RX3 12 "SquareGears" "now" "LSquareGears$Gears;") (by decide +kernel)) (fun _ h9 => h9) rfl dX3_overshoot_13 ?_
  refine lv_iconst (v := 0) hx hb dX3_overshoot_16 (by decide) ?_
  refine cx_ri (va_runVN (As := [.int 0]) (rest := [.int (if (gtS (dr ((R 0)) lm) 7) < (-(ltS (dr ((R 0)) lm) 7)) then (-(ltS (dr ((R 0)) lm) 7)) else (gtS (dr ((R 0)) lm) 7))]) ⟨hx, hb, hml, hown, hts⟩ (c_X0_drawnAmplitude l D T ad I R lm 0 (hm) (hI) (by decide)) ⟨va_cnB 1 hts gX3_overshoot_X0_drawnAmplitude_n201 rfl rfl rfl (nwm_X3_201 hN) (hts (.initialized RX0) (by decide +kernel)) (by decide +kernel) ⟨Nat.le_of_ble_eq_true rfl, Nat.le_of_ble_eq_true rfl⟩, (hts (.instanceMethod yX0_drawnAmplitude) (by decide +kernel)), (hts (.selects RX0 yX0_drawnAmplitude yX0_drawnAmplitude) (by decide +kernel))⟩ ⟨CR.blind, va_recv hK hP (ci := 0) (q0 := 1) rfl cw_1, (CR.pre hP hK hN rfl)⟩ rfl rfl hl.1 rfl (lv_room (Nat.le_of_ble_eq_true rfl)) dX3_overshoot_17 ⟨Nat.le_of_ble_eq_true rfl, Nat.le_of_ble_eq_true rfl⟩) hS hP (fun H locs hP hS => ?_)
  refine va_mabs hx hb (hml.trans hl.1.symm) hown (hts (.methodLink RX3 83 Lib.Math.abs.name) (by decide +kernel)) (hts (.static Lib.Math.abs.name) (by decide +kernel)) (hts (.initialized "java/lang/Math") (by decide +kernel)) (hts (.code Lib.Math.abs.name Lib.Math.abs.code 1 (some .int)) (by decide +kernel)) (Nat.le_of_ble_eq_true rfl) (Nat.le_of_ble_eq_true rfl) (Nat.zero_le _) (Nat.zero_le _) dX3_overshoot_20 ?_
  refine lv_isub hx hb dX3_overshoot_23 ?_
  exact W.iret (v := ((if (gtS (dr ((R 0)) lm) 7) < (-(ltS (dr ((R 0)) lm) 7)) then (-(ltS (dr ((R 0)) lm) 7)) else (gtS (dr ((R 0)) lm) 7)) - (if 0 ≤ (dr ((R 0)) lm 0) then (dr ((R 0)) lm 0) else 0 - (dr ((R 0)) lm 0)))) hx hb hr (fun t ht hW => ⟨⟨((if (gtS (dr ((R 0)) lm) 7) < (-(ltS (dr ((R 0)) lm) 7)) then (-(ltS (dr ((R 0)) lm) 7)) else (gtS (dr ((R 0)) lm) 7)) - (if 0 ≤ (dr ((R 0)) lm 0) then (dr ((R 0)) lm 0) else 0 - (dr ((R 0)) lm 0))), (), rfl, (rfl), trivial⟩, hS.F ht⟩) hS.2.2 dX3_overshoot_24
set_option maxHeartbeats 4000000 in
set_option maxRecDepth 100000 in
theorem c_X3_countNumber (l : Launch) (D : va_G) (T : Nat → ClassId) (ad : Nat → Nat) (I : Nat → Int32) (R : Nat → Nat → Int32) (lm : Nat) (w : Nat) (hm : lm < 256) (hI : I 4 = nI lm) (hw : w < 9) : Met l yX3_countNumber wsX3_countNumber ({ frames := 5, cells := 0, slots := 0, locals := 108 }) (va_Pc [.ref (ad 0), .int (nI w)] (CR D T ad I R)) (RqI (cnF (R 0) (R 1) lm (I 5) (I 2) w)) 0 0 (fun _ => False) := by
  refine Met.ofW (cc := cX3_countNumber) (maxL := 2) (ret := (some .int)) (by decide) rfl ?_
  intro p e s m args_ below meth c s₁ B hml hv
  obtain ⟨rfl, hP, hK, hN⟩ := hv
  have hx := B.exec
  have hb := B.bytes
  have hr := B.returns
  have hts := atoms_spec (ws := wsX3_countNumber) B.pre
  have hown : s.vm.findClass RX3 = some m.cls := findClass_of_methodNamed B.named
  have hlocks := B.notSynchronized
  have hinX0 : ∀ w ∈ u_ws RX0 TX0 4, w ∈ wsX3_countNumber := by decide +kernel
  have hinX1 : ∀ w ∈ u_ws RX1 TX1 3, w ∈ wsX3_countNumber := by decide +kernel
  have hinX3 : ∀ w ∈ u_ws RX3 TX3 6, w ∈ wsX3_countNumber := by decide +kernel
  have hS : va_S (fun _ => False) s.heap s.heap [] := va_S.rf
  have hl := lv_entry ([.ref (ad 0), .int (nI w)]) (n := 2) (Nat.le_of_ble_eq_true rfl)
  rw [lg_entry_eq]
  generalize (lg_sl ([.ref (ad 0), .int (nI w)]) ++ List.replicate (2 - (lg_sl ([.ref (ad 0), .int (nI w)])).length) Slot.unset).toArray = ls at hl ⊢
  have hl : lv_has ls 2 [(0, .ref (ad 0)), (1, .int (nI w))] := hl
  refine lv_iload_n hx hb dX3_countNumber_0 rfl (lv_at hl 1 rfl) ?_
  rcases (show w = 0 ∨ w = 1 ∨ w = 2 ∨ w = 3 ∨ w = 4 ∨ w = 5 ∨ w = 6 ∨ w = 7 ∨ w = 8 by omega) with rfl | rfl | rfl | rfl | rfl | rfl | rfl | rfl | rfl
  · refine lv_tableIn (tgt := 48) (off := 47) hx hb dX3_countNumber_1 (by decide) (by decide) (by decide) (by decide) ?_
    refine lv_aload_n hx hb dX3_countNumber_48 rfl (lv_at hl 0 rfl) ?_
    refine va_get (D := D) (ci := 3) (v := .ref (ad 1)) (C := RX3) (T := TX3) (N := 6) hx hb hts hinX3 hown hK hP 0 cw_0 rfl 0 (by decide) (hts (.fieldLink RX3 12 "SquareGears" "now" "LSquareGears$Gears;") (by decide +kernel)) (fun _ h9 => h9) rfl dX3_countNumber_49 ?_
    refine cx_ri (va_runVN (As := []) (rest := []) ⟨hx, hb, hml, hown, hts⟩ (c_X0_drawingWheels l D T ad I R ) ⟨va_cnB 0 hts gX3_countNumber_X0_drawingWheels_n144 rfl rfl rfl (nwm_X3_144 hN) (hts (.initialized RX0) (by decide +kernel)) (by decide +kernel) ⟨Nat.le_of_ble_eq_true rfl, Nat.le_of_ble_eq_true rfl⟩, (hts (.instanceMethod yX0_drawingWheels) (by decide +kernel)), (hts (.selects RX0 yX0_drawingWheels yX0_drawingWheels) (by decide +kernel))⟩ ⟨CR.blind, va_recv hK hP (ci := 0) (q0 := 1) rfl cw_1, (CR.pre hP hK hN rfl)⟩ rfl rfl hl.1 rfl (lv_room (Nat.le_of_ble_eq_true rfl)) dX3_countNumber_52 ⟨Nat.le_of_ble_eq_true rfl, Nat.le_of_ble_eq_true rfl⟩) hS hP (fun H locs hP hS => ?_)
    exact W.iret (v := (cnS ((R 0)) 8)) hx hb hr (fun t ht hW => ⟨⟨(cnS ((R 0)) 8), (), rfl, (cn0.symm), trivial⟩, hS.F ht⟩) hS.2.2 dX3_countNumber_55
  · refine lv_tableIn (tgt := 56) (off := 55) hx hb dX3_countNumber_1 (by decide) (by decide) (by decide) (by decide) ?_
    refine lv_aload_n hx hb dX3_countNumber_56 rfl (lv_at hl 0 rfl) ?_
    refine va_get (D := D) (ci := 3) (v := .ref (ad 1)) (C := RX3) (T := TX3) (N := 6) hx hb hts hinX3 hown hK hP 0 cw_0 rfl 0 (by decide) (hts (.fieldLink RX3 12 "SquareGears" "now" "LSquareGears$Gears;") (by decide +kernel)) (fun _ h9 => h9) rfl dX3_countNumber_57 ?_
    refine va_getN (D := D) (ci := 0) (v := .int (I 4)) (C := RX0) (T := TX0) (N := 4) hx hb hts hinX0 hown hK hP 1 cw_1 rfl 2 (by decide) (nw_use rfl (nwf_X3_69 hN)) (fun _ h9 => h9) rfl dX3_countNumber_60 ?_
    refine cx_ri (va_runS (As := [.int (I 4)]) (rest := []) ⟨hx, hb, hml, hown, hts⟩ (c_J6_bitCount_0f7a4 l  (I 4)) (va_cwS 1 hts gX3_countNumber_J6_bitCount_0f7a4 rfl rfl rfl (by decide +kernel) ⟨Nat.le_of_ble_eq_true rfl, Nat.le_of_ble_eq_true rfl⟩) ⟨pc_blind, (fun U hU hW => ⟨rfl, trivial⟩)⟩ rfl rfl hl.1 rfl (lv_room (Nat.le_of_ble_eq_true rfl)) dX3_countNumber_63 ⟨Nat.le_of_ble_eq_true rfl, Nat.le_of_ble_eq_true rfl⟩) hS hP (fun H locs hP hS => ?_)
    exact W.iret (v := (bcF (I 4))) hx hb hr (fun t ht hW => ⟨⟨(bcF (I 4)), (), rfl, (by rw [hI]; exact cn1.symm), trivial⟩, hS.F ht⟩) hS.2.2 dX3_countNumber_66
  · refine lv_tableIn (tgt := 67) (off := 66) hx hb dX3_countNumber_1 (by decide) (by decide) (by decide) (by decide) ?_
    refine lv_aload_n hx hb dX3_countNumber_67 rfl (lv_at hl 0 rfl) ?_
    refine cx_ri (va_runV (As := []) (rest := []) ⟨hx, hb, hml, hown, hts⟩ (c_X3_greatestTrace l D T ad I R lm (hm) (hI)) (cwV 0 hts gX3_countNumber_X3_greatestTrace rfl rfl rfl (by decide +kernel) ⟨Nat.le_of_ble_eq_true rfl, Nat.le_of_ble_eq_true rfl⟩) ⟨CR.blind, va_recv hK hP (ci := 3) (q0 := 0) rfl cw_0, (CR.pre hP hK hN rfl)⟩ rfl rfl hl.1 rfl (lv_room (Nat.le_of_ble_eq_true rfl)) dX3_countNumber_68 ⟨Nat.le_of_ble_eq_true rfl, Nat.le_of_ble_eq_true rfl⟩) hS hP (fun H locs hP hS => ?_)
    exact W.iret (v := (gtS (dr ((R 0)) lm) 7)) hx hb hr (fun t ht hW => ⟨⟨(gtS (dr ((R 0)) lm) 7), (), rfl, (cn2.symm), trivial⟩, hS.F ht⟩) hS.2.2 dX3_countNumber_71
  · refine lv_tableIn (tgt := 72) (off := 71) hx hb dX3_countNumber_1 (by decide) (by decide) (by decide) (by decide) ?_
    refine lv_aload_n hx hb dX3_countNumber_72 rfl (lv_at hl 0 rfl) ?_
    refine cx_ri (va_runV (As := []) (rest := []) ⟨hx, hb, hml, hown, hts⟩ (c_X3_leastTrace l D T ad I R lm (hm) (hI)) (cwV 0 hts gX3_countNumber_X3_leastTrace rfl rfl rfl (by decide +kernel) ⟨Nat.le_of_ble_eq_true rfl, Nat.le_of_ble_eq_true rfl⟩) ⟨CR.blind, va_recv hK hP (ci := 3) (q0 := 0) rfl cw_0, (CR.pre hP hK hN rfl)⟩ rfl rfl hl.1 rfl (lv_room (Nat.le_of_ble_eq_true rfl)) dX3_countNumber_73 ⟨Nat.le_of_ble_eq_true rfl, Nat.le_of_ble_eq_true rfl⟩) hS hP (fun H locs hP hS => ?_)
    exact W.iret (v := (ltS (dr ((R 0)) lm) 7)) hx hb hr (fun t ht hW => ⟨⟨(ltS (dr ((R 0)) lm) 7), (), rfl, (cn3.symm), trivial⟩, hS.F ht⟩) hS.2.2 dX3_countNumber_76
  · refine lv_tableIn (tgt := 77) (off := 76) hx hb dX3_countNumber_1 (by decide) (by decide) (by decide) (by decide) ?_
    refine lv_aload_n hx hb dX3_countNumber_77 rfl (lv_at hl 0 rfl) ?_
    refine cx_ri (va_runV (As := []) (rest := []) ⟨hx, hb, hml, hown, hts⟩ (c_X3_greatestDifference l D T ad I R lm (hm) (hI)) (cwV 0 hts gX3_countNumber_X3_greatestDifference rfl rfl rfl (by decide +kernel) ⟨Nat.le_of_ble_eq_true rfl, Nat.le_of_ble_eq_true rfl⟩) ⟨CR.blind, va_recv hK hP (ci := 3) (q0 := 0) rfl cw_0, (CR.pre hP hK hN rfl)⟩ rfl rfl hl.1 rfl (lv_room (Nat.le_of_ble_eq_true rfl)) dX3_countNumber_78 ⟨Nat.le_of_ble_eq_true rfl, Nat.le_of_ble_eq_true rfl⟩) hS hP (fun H locs hP hS => ?_)
    exact W.iret (v := (gaS (diF ((R 1)) (dr ((R 0)) lm)) 8)) hx hb hr (fun t ht hW => ⟨⟨(gaS (diF ((R 1)) (dr ((R 0)) lm)) 8), (), rfl, (cn4.symm), trivial⟩, hS.F ht⟩) hS.2.2 dX3_countNumber_81
  · refine lv_tableIn (tgt := 82) (off := 81) hx hb dX3_countNumber_1 (by decide) (by decide) (by decide) (by decide) ?_
    refine lv_aload_n hx hb dX3_countNumber_82 rfl (lv_at hl 0 rfl) ?_
    refine cx_ri (va_runV (As := []) (rest := []) ⟨hx, hb, hml, hown, hts⟩ (c_X3_greatestJump l D T ad I R lm (hm) (hI)) (cwV 0 hts gX3_countNumber_X3_greatestJump rfl rfl rfl (by decide +kernel) ⟨Nat.le_of_ble_eq_true rfl, Nat.le_of_ble_eq_true rfl⟩) ⟨CR.blind, va_recv hK hP (ci := 3) (q0 := 0) rfl cw_0, (CR.pre hP hK hN rfl)⟩ rfl rfl hl.1 rfl (lv_room (Nat.le_of_ble_eq_true rfl)) dX3_countNumber_83 ⟨Nat.le_of_ble_eq_true rfl, Nat.le_of_ble_eq_true rfl⟩) hS hP (fun H locs hP hS => ?_)
    exact W.iret (v := (gaS (juF (dr ((R 0)) lm)) 8)) hx hb hr (fun t ht hW => ⟨⟨(gaS (juF (dr ((R 0)) lm)) 8), (), rfl, (cn5.symm), trivial⟩, hS.F ht⟩) hS.2.2 dX3_countNumber_86
  · refine lv_tableIn (tgt := 87) (off := 86) hx hb dX3_countNumber_1 (by decide) (by decide) (by decide) (by decide) ?_
    refine lv_aload_n hx hb dX3_countNumber_87 rfl (lv_at hl 0 rfl) ?_
    refine cx_ri (va_runV (As := []) (rest := []) ⟨hx, hb, hml, hown, hts⟩ (c_X3_overshoot l D T ad I R lm (hm) (hI)) (cwV 0 hts gX3_countNumber_X3_overshoot rfl rfl rfl (by decide +kernel) ⟨Nat.le_of_ble_eq_true rfl, Nat.le_of_ble_eq_true rfl⟩) ⟨CR.blind, va_recv hK hP (ci := 3) (q0 := 0) rfl cw_0, (CR.pre hP hK hN rfl)⟩ rfl rfl hl.1 rfl (lv_room (Nat.le_of_ble_eq_true rfl)) dX3_countNumber_88 ⟨Nat.le_of_ble_eq_true rfl, Nat.le_of_ble_eq_true rfl⟩) hS hP (fun H locs hP hS => ?_)
    exact W.iret (v := (ovF (dr ((R 0)) lm))) hx hb hr (fun t ht hW => ⟨⟨(ovF (dr ((R 0)) lm)), (), rfl, (cn6.symm), trivial⟩, hS.F ht⟩) hS.2.2 dX3_countNumber_91
  · refine lv_tableIn (tgt := 92) (off := 91) hx hb dX3_countNumber_1 (by decide) (by decide) (by decide) (by decide) ?_
    refine lv_aload_n hx hb dX3_countNumber_92 rfl (lv_at hl 0 rfl) ?_
    refine va_get (D := D) (ci := 3) (v := .ref (ad 1)) (C := RX3) (T := TX3) (N := 6) hx hb hts hinX3 hown hK hP 0 cw_0 rfl 0 (by decide) (hts (.fieldLink RX3 12 "SquareGears" "now" "LSquareGears$Gears;") (by decide +kernel)) (fun _ h9 => h9) rfl dX3_countNumber_93 ?_
    refine va_getN (D := D) (ci := 0) (v := .int (I 5)) (C := RX0) (T := TX0) (N := 4) hx hb hts hinX0 hown hK hP 1 cw_1 rfl 3 (by decide) (nw_use rfl (nwf_X3_108 hN)) (fun _ h9 => h9) rfl dX3_countNumber_96 ?_
    exact W.iret (v := (I 5)) hx hb hr (fun t ht hW => ⟨⟨(I 5), (), rfl, (cn7.symm), trivial⟩, hS.F ht⟩) hS.2.2 dX3_countNumber_99
  · refine lv_tableOut (tgt := 100) hx hb dX3_countNumber_1 (Or.inr (by decide)) (by decide) ?_
    refine lv_aload_n hx hb dX3_countNumber_100 rfl (lv_at hl 0 rfl) ?_
    refine va_get (D := D) (ci := 3) (v := .ref (ad 5)) (C := RX3) (T := TX3) (N := 6) hx hb hts hinX3 hown hK hP 0 cw_0 rfl 3 (by decide) (hts (.fieldLink RX3 27 "SquareGears" "saved" "LSquareGears$SavedGears;") (by decide +kernel)) (fun _ h9 => h9) rfl dX3_countNumber_101 ?_
    refine va_getN (D := D) (ci := 1) (v := .int (I 2)) (C := RX1) (T := TX1) (N := 3) hx hb hts hinX1 hown hK hP 5 cw_5 rfl 2 (by decide) (nw_use rfl (nwf_X3_157 hN)) (fun _ h9 => h9) rfl dX3_countNumber_104 ?_
    exact W.iret (v := (I 2)) hx hb hr (fun t ht hW => ⟨⟨(I 2), (), rfl, (cn8.symm), trivial⟩, hS.F ht⟩) hS.2.2 dX3_countNumber_107
set_option maxHeartbeats 4000000 in
set_option maxRecDepth 100000 in
theorem c_X3_isDifference (l : Launch) (D : va_G) (T : Nat → ClassId) (ad : Nat → Nat) (I : Nat → Int32) (R : Nat → Nat → Int32) (lm : Nat) (x : Int32) (k : Nat) (hm : lm < 256) (hI : I 4 = nI lm) (hk : k < 8) : Met l yX3_isDifference wsX3_isDifference ({ frames := 4, cells := 0, slots := 0, locals := 86 }) (va_Pc [.ref (ad 0), .int x, .int (nI k)] (CR D T ad I R)) (RqI (idS (diF (R 1) (dr (R 0) lm)) x k 8)) 0 0 (fun _ => False) := by
  refine Met.ofW (cc := cX3_isDifference) (maxL := 4) (ret := (some .boolean)) (by decide) rfl ?_
  intro p e s m args_ below meth c s₁ B hml hv
  obtain ⟨rfl, hP, hK, hN⟩ := hv
  have hx := B.exec
  have hb := B.bytes
  have hr := B.returns
  have hts := atoms_spec (ws := wsX3_isDifference) B.pre
  have hown : s.vm.findClass RX3 = some m.cls := findClass_of_methodNamed B.named
  have hlocks := B.notSynchronized
  have hinX3 : ∀ w ∈ u_ws RX3 TX3 6, w ∈ wsX3_isDifference := by decide +kernel
  have hS : va_S (fun _ => False) s.heap s.heap [] := va_S.rf
  have hl := lv_entry ([.ref (ad 0), .int x, .int (nI k)]) (n := 4) (Nat.le_of_ble_eq_true rfl)
  rw [lg_entry_eq]
  generalize (lg_sl ([.ref (ad 0), .int x, .int (nI k)]) ++ List.replicate (4 - (lg_sl ([.ref (ad 0), .int x, .int (nI k)])).length) Slot.unset).toArray = ls at hl ⊢
  have hl : lv_has ls 4 [(0, .ref (ad 0)), (1, .int x), (2, .int (nI k))] := hl
  refine lv_iconst (v := 0) hx hb dX3_isDifference_0 (by decide) ?_
  refine lv_istore_n (lv' := [(3, .int 0), (0, .ref (ad 0)), (1, .int x), (2, .int (nI k))]) hx hb dX3_isDifference_1 rfl hl (by decide) rfl (fun ls hl => ?_)
  suffices ih_2 : ∀ (fu : Nat) (i : Nat) (H : Heap) (locs : List Loc) (ls : Array Slot), 8 - i < fu → (i ≤ 8) → (idS (diF (R 1) (dr (R 0) lm)) x k i = 1) → va_P D vwCl (cw T ad I R) H →  va_S (fun _ => False) s.heap H locs → lv_has ls 4 [(0, .ref (ad 0)), (1, .int x), (2, .int (nI k)), (3, .int (nI i))] → W p l e (headSpec wsX3_isDifference ({ frames := 4, cells := 0, slots := 0, locals := 86 })).room s m ([.ref (ad 0), .int x, .int (nI k)] : List Value).toArray below meth c H locs 0 0 (MQ below (RqI (idS (diF (R 1) (dr (R 0) lm)) x k 8)) ([.ref (ad 0), .int x, .int (nI k)] : List Value).toArray s 0 0 (fun _ => False)) (F0 m 2 ls []) from
    ih_2 _ 0 _ _ _ (Nat.lt_succ_self _) (by omega) (rfl) hP hS (lv_sub hl [1, 2, 3, 0] rfl)
  intro fu
  induction fu with
  | zero => intro i H locs ls hfu; exact absurd hfu (Nat.not_lt_zero _)
  | succ fu ih_2 =>
    intro i H locs ls hfu hi hq hP hS hl
    refine lv_iload_n hx hb dX3_isDifference_2 rfl (lv_at hl 3 rfl) ?_
    refine lv_bipush (v := 8) hx hb dX3_isDifference_3 (by decide) ?_
    refine lv_icmp_ge (tgt := 34) hx hb dX3_isDifference_5 (by decide) (fun c_5 => ?_) (fun c_5 => ?_)
    · have c_5 : 8 ≤ i := (nI_leI (a := 8) (b := i) (by omega) (by omega)).mp c_5
      obtain rfl : i = 8 := by omega
      refine lv_iconst (v := 1) hx hb dX3_isDifference_34 (by decide) ?_
      exact W.zret (v := 1) hx hb hr (rfl) (fun t ht hW => ⟨⟨1, (), rfl, (by first | exact hq.symm | exact id_f (i := i) (by omega) c_23), trivial⟩, hS.F ht⟩) hS.2.2 dX3_isDifference_35
    · have c_5 : ¬ (8 ≤ i) := fun h => c_5 ((nI_leI (a := 8) (b := i) (by omega) (by omega)).mpr h)
      refine lv_aload_n hx hb dX3_isDifference_8 rfl (lv_at hl 0 rfl) ?_
      refine va_get (D := D) (ci := 3) (v := .ref (ad 1)) (C := RX3) (T := TX3) (N := 6) hx hb hts hinX3 hown hK hP 0 cw_0 rfl 0 (by decide) (hts (.fieldLink RX3 12 "SquareGears" "now" "LSquareGears$Gears;") (by decide +kernel)) (fun _ h9 => h9) rfl dX3_isDifference_9 ?_
      refine lv_iload_n hx hb dX3_isDifference_12 rfl (lv_at hl 3 rfl) ?_
      refine cx_ri (va_runVN (As := [.int (nI i)]) (rest := []) ⟨hx, hb, hml, hown, hts⟩ (c_X0_differenceAt l D T ad I R lm i (hm) (hI) (by omega)) ⟨va_cnB 1 hts gX3_isDifference_X0_differenceAt_n185 rfl rfl rfl (nwm_X3_185 hN) (hts (.initialized RX0) (by decide +kernel)) (by decide +kernel) ⟨Nat.le_of_ble_eq_true rfl, Nat.le_of_ble_eq_true rfl⟩, (hts (.instanceMethod yX0_differenceAt) (by decide +kernel)), (hts (.selects RX0 yX0_differenceAt yX0_differenceAt) (by decide +kernel))⟩ ⟨CR.blind, va_recv hK hP (ci := 0) (q0 := 1) rfl cw_1, (CR.pre hP hK hN rfl)⟩ rfl rfl hl.1 rfl (lv_room (Nat.le_of_ble_eq_true rfl)) dX3_isDifference_13 ⟨Nat.le_of_ble_eq_true rfl, Nat.le_of_ble_eq_true rfl⟩) hS hP (fun H locs hP hS => ?_)
      refine lv_iload_n hx hb dX3_isDifference_16 rfl (lv_at hl 1 rfl) ?_
      refine lv_iload_n hx hb dX3_isDifference_17 rfl (lv_at hl 2 rfl) ?_
      refine lv_iload_n hx hb dX3_isDifference_18 rfl (lv_at hl 3 rfl) ?_
      refine cx_ri (va_runS (As := [.int (nI k), .int (nI i)]) (rest := [.int x, .int ((R 1) i - trS (dr ((R 0)) lm) i 8)]) ⟨hx, hb, hml, hown, hts⟩ (c_X3_wave l  k i (hk) (by omega)) (va_cwS 2 hts gX3_isDifference_X3_wave rfl rfl rfl (by decide +kernel) ⟨Nat.le_of_ble_eq_true rfl, Nat.le_of_ble_eq_true rfl⟩) ⟨pc_blind, (fun U hU hW => ⟨rfl, trivial⟩)⟩ rfl rfl hl.1 rfl (lv_room (Nat.le_of_ble_eq_true rfl)) dX3_isDifference_19 ⟨Nat.le_of_ble_eq_true rfl, Nat.le_of_ble_eq_true rfl⟩) hS hP (fun H locs hP hS => ?_)
      refine lv_imul hx hb dX3_isDifference_22 ?_
      refine lv_icmp_eq (tgt := 28) hx hb dX3_isDifference_23 (by decide) (fun c_23 => ?_) (fun c_23 => ?_)
      · refine lv_iinc (k := 3) (v := (nI (i + 1))) (lv' := [(3, .int (nI (i + 1))), (0, .ref (ad 0)), (1, .int x), (2, .int (nI k))]) hx hb dX3_isDifference_28 hl rfl (nI_add i 1) (by decide) rfl (fun ls hl => ?_)
        refine lv_goto (tgt := 2) hx hb dX3_isDifference_31 (by decide) ?_
        exact ih_2 (i + 1) _ _ _ (by omega) (by omega) (id_t hq (by assumption)) hP hS (lv_sub hl [1, 2, 3, 0] rfl)
      · refine lv_iconst (v := 0) hx hb dX3_isDifference_26 (by decide) ?_
        exact W.zret (v := 0) hx hb hr (rfl) (fun t ht hW => ⟨⟨0, (), rfl, (by first | exact hq.symm | exact id_f (i := i) (by omega) c_23), trivial⟩, hS.F ht⟩) hS.2.2 dX3_isDifference_27
set_option maxHeartbeats 4000000 in
set_option maxRecDepth 100000 in
theorem c_X3_findLost (l : Launch) (D : va_G) (T : Nat → ClassId) (ad : Nat → Nat) (I : Nat → Int32) (R : Nat → Nat → Int32) (lm : Nat) (hm : lm < 256) (hI : I 4 = nI lm) : Met l yX3_findLost wsX3_findLost ({ frames := 5, cells := 0, slots := 0, locals := 109 }) (va_Pc [.ref (ad 0)] (CR D T ad I R)) (RqI (flF (diF (R 1) (dr (R 0) lm)))) 0 0 (fun _ => False) := by
  refine Met.ofW (cc := cX3_findLost) (maxL := 3) (ret := (some .int)) (by decide) rfl ?_
  intro p e s m args_ below meth c s₁ B hml hv
  obtain ⟨rfl, hP, hK, hN⟩ := hv
  have hx := B.exec
  have hb := B.bytes
  have hr := B.returns
  have hts := atoms_spec (ws := wsX3_findLost) B.pre
  have hown : s.vm.findClass RX3 = some m.cls := findClass_of_methodNamed B.named
  have hlocks := B.notSynchronized
  have hinX3 : ∀ w ∈ u_ws RX3 TX3 6, w ∈ wsX3_findLost := by decide +kernel
  have hS : va_S (fun _ => False) s.heap s.heap [] := va_S.rf
  have hl := lv_entry ([.ref (ad 0)]) (n := 3) (Nat.le_of_ble_eq_true rfl)
  rw [lg_entry_eq]
  generalize (lg_sl ([.ref (ad 0)]) ++ List.replicate (3 - (lg_sl ([.ref (ad 0)])).length) Slot.unset).toArray = ls at hl ⊢
  have hl : lv_has ls 3 [(0, .ref (ad 0))] := hl
  refine lv_aload_n hx hb dX3_findLost_0 rfl (lv_at hl 0 rfl) ?_
  refine va_get (D := D) (ci := 3) (v := .ref (ad 1)) (C := RX3) (T := TX3) (N := 6) hx hb hts hinX3 hown hK hP 0 cw_0 rfl 0 (by decide) (hts (.fieldLink RX3 12 "SquareGears" "now" "LSquareGears$Gears;") (by decide +kernel)) (fun _ h9 => h9) rfl dX3_findLost_1 ?_
  refine lv_iconst (v := 0) hx hb dX3_findLost_4 (by decide) ?_
  refine cx_ri (va_runVN (As := [.int 0]) (rest := []) ⟨hx, hb, hml, hown, hts⟩ (c_X0_differenceAt l D T ad I R lm 0 (hm) (hI) (by decide)) ⟨va_cnB 1 hts gX3_findLost_X0_differenceAt_n185 rfl rfl rfl (nwm_X3_185 hN) (hts (.initialized RX0) (by decide +kernel)) (by decide +kernel) ⟨Nat.le_of_ble_eq_true rfl, Nat.le_of_ble_eq_true rfl⟩, (hts (.instanceMethod yX0_differenceAt) (by decide +kernel)), (hts (.selects RX0 yX0_differenceAt yX0_differenceAt) (by decide +kernel))⟩ ⟨CR.blind, va_recv hK hP (ci := 0) (q0 := 1) rfl cw_1, (CR.pre hP hK hN rfl)⟩ rfl rfl hl.1 rfl (lv_room (Nat.le_of_ble_eq_true rfl)) dX3_findLost_5 ⟨Nat.le_of_ble_eq_true rfl, Nat.le_of_ble_eq_true rfl⟩) hS hP (fun H locs hP hS => ?_)
  refine lv_istore_n (lv' := [(1, .int ((R 1) 0 - trS (dr ((R 0)) lm) 0 8)), (0, .ref (ad 0))]) hx hb dX3_findLost_8 rfl hl (by decide) rfl (fun ls hl => ?_)
  refine lv_iload_n hx hb dX3_findLost_9 rfl (lv_at hl 0 rfl) ?_
  refine lv_if_ne (tgt := 15) hx hb dX3_findLost_10 (by decide) (fun c_10 => ?_) (fun c_10 => ?_)
  · refine lv_iconst (v := 0) hx hb dX3_findLost_15 (by decide) ?_
    refine lv_istore_n (lv' := [(2, .int 0), (1, .int ((R 1) 0 - trS (dr ((R 0)) lm) 0 8)), (0, .ref (ad 0))]) hx hb dX3_findLost_16 rfl hl (by decide) rfl (fun ls hl => ?_)
    suffices ih_17 : ∀ (fu : Nat) (i : Nat) (H : Heap) (locs : List Loc) (ls : Array Slot), 8 - i < fu → (i ≤ 8) → (flF (diF (R 1) (dr (R 0) lm)) = flS (fun k => idS (diF (R 1) (dr (R 0) lm)) (R 1 0 - trS (dr (R 0) lm) 0 8) k 8) (8 - i) i) → va_P D vwCl (cw T ad I R) H →  va_S (fun _ => False) s.heap H locs → lv_has ls 3 [(0, .ref (ad 0)), (1, .int (R 1 0 - trS (dr (R 0) lm) 0 8)), (2, .int (nI i))] → W p l e (headSpec wsX3_findLost ({ frames := 5, cells := 0, slots := 0, locals := 109 })).room s m ([.ref (ad 0)] : List Value).toArray below meth c H locs 0 0 (MQ below (RqI (flF (diF (R 1) (dr (R 0) lm)))) ([.ref (ad 0)] : List Value).toArray s 0 0 (fun _ => False)) (F0 m 17 ls []) from
      ih_17 _ 0 _ _ _ (Nat.lt_succ_self _) (by omega) (if_neg c_10) hP hS (lv_sub hl [2, 1, 0] rfl)
    intro fu
    induction fu with
    | zero => intro i H locs ls hfu; exact absurd hfu (Nat.not_lt_zero _)
    | succ fu ih_17 =>
      intro i H locs ls hfu hi hq hP hS hl
      refine lv_iload_n hx hb dX3_findLost_17 rfl (lv_at hl 2 rfl) ?_
      refine lv_bipush (v := 8) hx hb dX3_findLost_18 (by decide) ?_
      refine lv_icmp_ge (tgt := 40) hx hb dX3_findLost_20 (by decide) (fun c_20 => ?_) (fun c_20 => ?_)
      · have c_20 : 8 ≤ i := (nI_leI (a := 8) (b := i) (by omega) (by omega)).mp c_20
        obtain rfl : i = 8 := by omega
        refine lv_iconst (v := (-1)) hx hb dX3_findLost_40 (by decide) ?_
        exact W.iret (v := (-1)) hx hb hr (fun t ht hW => ⟨⟨(-1), (), rfl, (hq.symm), trivial⟩, hS.F ht⟩) hS.2.2 dX3_findLost_41
      · have c_20 : ¬ (8 ≤ i) := fun h => c_20 ((nI_leI (a := 8) (b := i) (by omega) (by omega)).mpr h)
        refine lv_aload_n hx hb dX3_findLost_23 rfl (lv_at hl 0 rfl) ?_
        refine lv_iload_n hx hb dX3_findLost_24 rfl (lv_at hl 1 rfl) ?_
        refine lv_iload_n hx hb dX3_findLost_25 rfl (lv_at hl 2 rfl) ?_
        refine cx_ri (va_runV (As := [.int (R 1 0 - trS (dr (R 0) lm) 0 8), .int (nI i)]) (rest := []) ⟨hx, hb, hml, hown, hts⟩ (c_X3_isDifference l D T ad I R lm (R 1 0 - trS (dr (R 0) lm) 0 8) i (hm) (hI) (by omega)) (cwV 2 hts gX3_findLost_X3_isDifference rfl rfl rfl (by decide +kernel) ⟨Nat.le_of_ble_eq_true rfl, Nat.le_of_ble_eq_true rfl⟩) ⟨CR.blind, va_recv hK hP (ci := 3) (q0 := 0) rfl cw_0, (CR.pre hP hK hN rfl)⟩ rfl rfl hl.1 rfl (lv_room (Nat.le_of_ble_eq_true rfl)) dX3_findLost_26 ⟨Nat.le_of_ble_eq_true rfl, Nat.le_of_ble_eq_true rfl⟩) hS hP (fun H locs hP hS => ?_)
        refine lv_if_eq (tgt := 34) hx hb dX3_findLost_29 (by decide) (fun c_29 => ?_) (fun c_29 => ?_)
        · refine lv_iinc (k := 2) (v := (nI (i + 1))) (lv' := [(2, .int (nI (i + 1))), (0, .ref (ad 0)), (1, .int (R 1 0 - trS (dr (R 0) lm) 0 8))]) hx hb dX3_findLost_34 hl rfl (nI_add i 1) (by decide) rfl (fun ls hl => ?_)
          refine lv_goto (tgt := 17) hx hb dX3_findLost_37 (by decide) ?_
          exact ih_17 (i + 1) _ _ _ (by omega) (by omega) (hq.trans (fl_miss (by omega) (by assumption))) hP hS (lv_sub hl [1, 2, 0] rfl)
        · refine lv_iload_n hx hb dX3_findLost_32 rfl (lv_at hl 2 rfl) ?_
          exact W.iret (v := (nI i)) hx hb hr (fun t ht hW => ⟨⟨(nI i), (), rfl, ((fl_hit (by omega) (by assumption)).trans hq.symm), trivial⟩, hS.F ht⟩) hS.2.2 dX3_findLost_33
  · refine lv_iconst (v := (-1)) hx hb dX3_findLost_13 (by decide) ?_
    exact W.iret (v := (-1)) hx hb hr (fun t ht hW => ⟨⟨(-1), (), rfl, ((if_pos c_10).symm), trivial⟩, hS.F ht⟩) hS.2.2 dX3_findLost_14
set_option maxHeartbeats 4000000 in
set_option maxRecDepth 100000 in
theorem c_X3_differencesIfTurned (l : Launch) (D : va_G) (T : Nat → ClassId) (ad : Nat → Nat) (I : Nat → Int32) (R : Nat → Nat → Int32) (lm : Nat) (b : Nat) (hm : lm < 256) (hI : I 4 = nI lm) (hb8 : b < 8) : Met l yX3_differencesIfTurned wsX3_differencesIfTurned ({ frames := 3, cells := 0, slots := 0, locals := 65 }) (va_Pc [.ref (ad 0), .int (nI b)] (CR D T ad I R)) (RqI (dtS (R 1) (dr (R 0) lm) b 8)) 0 0 (fun _ => False) := by
  refine Met.ofW (cc := cX3_differencesIfTurned) (maxL := 4) (ret := (some .int)) (by decide) rfl ?_
  intro p e s m args_ below meth c s₁ B hml hv
  obtain ⟨rfl, hP, hK, hN⟩ := hv
  have hx := B.exec
  have hb := B.bytes
  have hr := B.returns
  have hts := atoms_spec (ws := wsX3_differencesIfTurned) B.pre
  have hown : s.vm.findClass RX3 = some m.cls := findClass_of_methodNamed B.named
  have hlocks := B.notSynchronized
  have hinX0 : ∀ w ∈ u_ws RX0 TX0 4, w ∈ wsX3_differencesIfTurned := by decide +kernel
  have hinX3 : ∀ w ∈ u_ws RX3 TX3 6, w ∈ wsX3_differencesIfTurned := by decide +kernel
  have hS : va_S (fun _ => False) s.heap s.heap [] := va_S.rf
  have hl := lv_entry ([.ref (ad 0), .int (nI b)]) (n := 4) (Nat.le_of_ble_eq_true rfl)
  rw [lg_entry_eq]
  generalize (lg_sl ([.ref (ad 0), .int (nI b)]) ++ List.replicate (4 - (lg_sl ([.ref (ad 0), .int (nI b)])).length) Slot.unset).toArray = ls at hl ⊢
  have hl : lv_has ls 4 [(0, .ref (ad 0)), (1, .int (nI b))] := hl
  refine lv_iconst (v := 0) hx hb dX3_differencesIfTurned_0 (by decide) ?_
  refine lv_istore_n (lv' := [(2, .int 0), (0, .ref (ad 0)), (1, .int (nI b))]) hx hb dX3_differencesIfTurned_1 rfl hl (by decide) rfl (fun ls hl => ?_)
  refine lv_iconst (v := 0) hx hb dX3_differencesIfTurned_2 (by decide) ?_
  refine lv_istore_n (lv' := [(3, .int 0), (2, .int 0), (0, .ref (ad 0)), (1, .int (nI b))]) hx hb dX3_differencesIfTurned_3 rfl hl (by decide) rfl (fun ls hl => ?_)
  suffices ih_4 : ∀ (fu : Nat) (i : Nat) (H : Heap) (locs : List Loc) (ls : Array Slot), 8 - i < fu → (i ≤ 8) → va_P D vwCl (cw T ad I R) H →  va_S (fun _ => False) s.heap H locs → lv_has ls 4 [(0, .ref (ad 0)), (1, .int (nI b)), (2, .int (dtS (R 1) (dr (R 0) lm) b i)), (3, .int (nI i))] → W p l e (headSpec wsX3_differencesIfTurned ({ frames := 3, cells := 0, slots := 0, locals := 65 })).room s m ([.ref (ad 0), .int (nI b)] : List Value).toArray below meth c H locs 0 0 (MQ below (RqI (dtS (R 1) (dr (R 0) lm) b 8)) ([.ref (ad 0), .int (nI b)] : List Value).toArray s 0 0 (fun _ => False)) (F0 m 4 ls []) from
    ih_4 _ 0 _ _ _ (Nat.lt_succ_self _) (by omega) hP hS (lv_sub hl [2, 3, 1, 0] rfl)
  intro fu
  induction fu with
  | zero => intro i H locs ls hfu; exact absurd hfu (Nat.not_lt_zero _)
  | succ fu ih_4 =>
    intro i H locs ls hfu hi hP hS hl
    refine lv_iload_n hx hb dX3_differencesIfTurned_4 rfl (lv_at hl 3 rfl) ?_
    refine lv_bipush (v := 8) hx hb dX3_differencesIfTurned_5 (by decide) ?_
    refine lv_icmp_ge (tgt := 42) hx hb dX3_differencesIfTurned_7 (by decide) (fun c_7 => ?_) (fun c_7 => ?_)
    · have c_7 : 8 ≤ i := (nI_leI (a := 8) (b := i) (by omega) (by omega)).mp c_7
      obtain rfl : i = 8 := by omega
      refine lv_iload_n hx hb dX3_differencesIfTurned_42 rfl (lv_at hl 2 rfl) ?_
      exact W.iret (v := (dtS (R 1) (dr (R 0) lm) b 8)) hx hb hr (fun t ht hW => ⟨⟨(dtS (R 1) (dr (R 0) lm) b 8), (), rfl, (rfl), trivial⟩, hS.F ht⟩) hS.2.2 dX3_differencesIfTurned_43
    · have c_7 : ¬ (8 ≤ i) := fun h => c_7 ((nI_leI (a := 8) (b := i) (by omega) (by omega)).mpr h)
      refine lv_iload_n hx hb dX3_differencesIfTurned_10 rfl (lv_at hl 2 rfl) ?_
      refine lv_aload_n hx hb dX3_differencesIfTurned_11 rfl (lv_at hl 0 rfl) ?_
      refine va_get (D := D) (ci := 3) (v := .ref (ad 1)) (C := RX3) (T := TX3) (N := 6) hx hb hts hinX3 hown hK hP 0 cw_0 rfl 0 (by decide) (hts (.fieldLink RX3 12 "SquareGears" "now" "LSquareGears$Gears;") (by decide +kernel)) (fun _ h9 => h9) rfl dX3_differencesIfTurned_12 ?_
      refine va_getN (D := D) (ci := 0) (v := .ref (ad 3)) (C := RX0) (T := TX0) (N := 4) hx hb hts hinX0 hown hK hP 1 cw_1 rfl 1 (by decide) (nw_use rfl (nwf_X3_93 hN)) (fun _ h9 => h9) rfl dX3_differencesIfTurned_15 ?_
      refine lv_iload_n hx hb dX3_differencesIfTurned_18 rfl (lv_at hl 3 rfl) ?_
      refine cx_iald (k := i) hx hb hK hP 3 1 cw_3 rfl (by omega) (by decide) dX3_differencesIfTurned_19 ?_
      refine lv_aload_n hx hb dX3_differencesIfTurned_20 rfl (lv_at hl 0 rfl) ?_
      refine va_get (D := D) (ci := 3) (v := .ref (ad 1)) (C := RX3) (T := TX3) (N := 6) hx hb hts hinX3 hown hK hP 0 cw_0 rfl 0 (by decide) (hts (.fieldLink RX3 12 "SquareGears" "now" "LSquareGears$Gears;") (by decide +kernel)) (fun _ h9 => h9) rfl dX3_differencesIfTurned_21 ?_
      refine lv_iload_n hx hb dX3_differencesIfTurned_24 rfl (lv_at hl 3 rfl) ?_
      refine lv_iload_n hx hb dX3_differencesIfTurned_25 rfl (lv_at hl 1 rfl) ?_
      refine lv_ixor hx hb dX3_differencesIfTurned_26 ?_
      refine cx_top (show ((nI i) ^^^ (nI b)) = (nI (i ^^^ b)) from nI_xor (by omega) hb8) ?_
      refine cx_ri (va_runVN (As := [.int (nI (i ^^^ b))]) (rest := [.int ((R 1) i), .int (dtS (R 1) (dr (R 0) lm) b i)]) ⟨hx, hb, hml, hown, hts⟩ (c_X0_traceAt l D T ad I R lm (i ^^^ b) (hm) (hI) (xor_lt (by omega) hb8)) ⟨va_cnB 1 hts gX3_differencesIfTurned_X0_traceAt_n96 rfl rfl rfl (nwm_X3_96 hN) (hts (.initialized RX0) (by decide +kernel)) (by decide +kernel) ⟨Nat.le_of_ble_eq_true rfl, Nat.le_of_ble_eq_true rfl⟩, (hts (.instanceMethod yX0_traceAt) (by decide +kernel)), (hts (.selects RX0 yX0_traceAt yX0_traceAt) (by decide +kernel))⟩ ⟨CR.blind, va_recv hK hP (ci := 0) (q0 := 1) rfl cw_1, (CR.pre hP hK hN rfl)⟩ rfl rfl hl.1 rfl (lv_room (Nat.le_of_ble_eq_true rfl)) dX3_differencesIfTurned_27 ⟨Nat.le_of_ble_eq_true rfl, Nat.le_of_ble_eq_true rfl⟩) hS hP (fun H locs hP hS => ?_)
      refine lv_isub hx hb dX3_differencesIfTurned_30 ?_
      refine va_mabs hx hb (hml.trans hl.1.symm) hown (hts (.methodLink RX3 83 Lib.Math.abs.name) (by decide +kernel)) (hts (.static Lib.Math.abs.name) (by decide +kernel)) (hts (.initialized "java/lang/Math") (by decide +kernel)) (hts (.code Lib.Math.abs.name Lib.Math.abs.code 1 (some .int)) (by decide +kernel)) (Nat.le_of_ble_eq_true rfl) (Nat.le_of_ble_eq_true rfl) (Nat.zero_le _) (Nat.zero_le _) dX3_differencesIfTurned_31 ?_
      refine lv_iadd hx hb dX3_differencesIfTurned_34 ?_
      refine lv_istore_n (lv' := [(2, .int ((dtS (R 1) (dr (R 0) lm) b i) + (if 0 ≤ (((R 1) i) - (trS (dr ((R 0)) lm) (i ^^^ b) 8)) then (((R 1) i) - (trS (dr ((R 0)) lm) (i ^^^ b) 8)) else 0 - (((R 1) i) - (trS (dr ((R 0)) lm) (i ^^^ b) 8))))), (0, .ref (ad 0)), (1, .int (nI b)), (3, .int (nI i))]) hx hb dX3_differencesIfTurned_35 rfl hl (by decide) rfl (fun ls hl => ?_)
      refine lv_iinc (k := 3) (v := (nI (i + 1))) (lv' := [(3, .int (nI (i + 1))), (2, .int ((dtS (R 1) (dr (R 0) lm) b i) + (if 0 ≤ (((R 1) i) - (trS (dr ((R 0)) lm) (i ^^^ b) 8)) then (((R 1) i) - (trS (dr ((R 0)) lm) (i ^^^ b) 8)) else 0 - (((R 1) i) - (trS (dr ((R 0)) lm) (i ^^^ b) 8))))), (0, .ref (ad 0)), (1, .int (nI b))]) hx hb dX3_differencesIfTurned_36 hl rfl (nI_add i 1) (by decide) rfl (fun ls hl => ?_)
      refine lv_goto (tgt := 4) hx hb dX3_differencesIfTurned_39 (by decide) ?_
      exact ih_4 (i + 1) _ _ _ (by omega) (by omega) hP hS (lv_sub hl [2, 3, 1, 0] rfl)
set_option maxHeartbeats 4000000 in
set_option maxRecDepth 100000 in
theorem c_X3_bestTurn (l : Launch) (D : va_G) (T : Nat → ClassId) (ad : Nat → Nat) (I : Nat → Int32) (R : Nat → Nat → Int32) (lm : Nat) (hm : lm < 256) (hI : I 4 = nI lm) : Met l yX3_bestTurn wsX3_bestTurn ({ frames := 4, cells := 0, slots := 0, locals := 88 }) (va_Pc [.ref (ad 0)] (CR D T ad I R)) (RqI (nI (btS (fun b => dtS (R 1) (dr (R 0) lm) b 8) 7))) 0 0 (fun _ => False) := by
  refine Met.ofW (cc := cX3_bestTurn) (maxL := 5) (ret := (some .int)) (by decide) rfl ?_
  intro p e s m args_ below meth c s₁ B hml hv
  obtain ⟨rfl, hP, hK, hN⟩ := hv
  have hx := B.exec
  have hb := B.bytes
  have hr := B.returns
  have hts := atoms_spec (ws := wsX3_bestTurn) B.pre
  have hown : s.vm.findClass RX3 = some m.cls := findClass_of_methodNamed B.named
  have hlocks := B.notSynchronized
  have hS : va_S (fun _ => False) s.heap s.heap [] := va_S.rf
  have hl := lv_entry ([.ref (ad 0)]) (n := 5) (Nat.le_of_ble_eq_true rfl)
  rw [lg_entry_eq]
  generalize (lg_sl ([.ref (ad 0)]) ++ List.replicate (5 - (lg_sl ([.ref (ad 0)])).length) Slot.unset).toArray = ls at hl ⊢
  have hl : lv_has ls 5 [(0, .ref (ad 0))] := hl
  refine lv_iconst (v := 0) hx hb dX3_bestTurn_0 (by decide) ?_
  refine lv_istore_n (lv' := [(1, .int (nI 0)), (0, .ref (ad 0))]) hx hb dX3_bestTurn_1 rfl hl (by decide) rfl (fun ls hl => ?_)
  refine lv_aload_n hx hb dX3_bestTurn_2 rfl (lv_at hl 1 rfl) ?_
  refine lv_iconst (v := 0) hx hb dX3_bestTurn_3 (by decide) ?_
  refine cx_ri (va_runV (As := [.int 0]) (rest := []) ⟨hx, hb, hml, hown, hts⟩ (c_X3_differencesIfTurned l D T ad I R lm 0 (hm) (hI) (by decide)) (cwV 1 hts gX3_bestTurn_X3_differencesIfTurned rfl rfl rfl (by decide +kernel) ⟨Nat.le_of_ble_eq_true rfl, Nat.le_of_ble_eq_true rfl⟩) ⟨CR.blind, va_recv hK hP (ci := 3) (q0 := 0) rfl cw_0, (CR.pre hP hK hN rfl)⟩ rfl rfl hl.1 rfl (lv_room (Nat.le_of_ble_eq_true rfl)) dX3_bestTurn_4 ⟨Nat.le_of_ble_eq_true rfl, Nat.le_of_ble_eq_true rfl⟩) hS hP (fun H locs hP hS => ?_)
  refine lv_istore_n (lv' := [(2, .int (dtS ((R 1)) (dr ((R 0)) lm) 0 8)), (1, .int (nI 0)), (0, .ref (ad 0))]) hx hb dX3_bestTurn_7 rfl hl (by decide) rfl (fun ls hl => ?_)
  refine lv_iconst (v := 1) hx hb dX3_bestTurn_8 (by decide) ?_
  refine lv_istore_n (lv' := [(3, .int 1), (2, .int (dtS ((R 1)) (dr ((R 0)) lm) 0 8)), (1, .int (nI 0)), (0, .ref (ad 0))]) hx hb dX3_bestTurn_9 rfl hl (by decide) rfl (fun ls hl => ?_)
  suffices ih_10 : ∀ (fu : Nat) (j : Nat) (b : Nat) (H : Heap) (locs : List Loc) (ls : Array Slot), 7 - j < fu → (j ≤ 7) → (b = btS (fun b => dtS (R 1) (dr (R 0) lm) b 8) j) → va_P D vwCl (cw T ad I R) H →  va_S (fun _ => False) s.heap H locs → lv_has ls 5 [(0, .ref (ad 0)), (1, .int (nI b)), (2, .int (dtS (R 1) (dr (R 0) lm) b 8)), (3, .int (nI (j + 1)))] → W p l e (headSpec wsX3_bestTurn ({ frames := 4, cells := 0, slots := 0, locals := 88 })).room s m ([.ref (ad 0)] : List Value).toArray below meth c H locs 0 0 (MQ below (RqI (nI (btS (fun b => dtS (R 1) (dr (R 0) lm) b 8) 7))) ([.ref (ad 0)] : List Value).toArray s 0 0 (fun _ => False)) (F0 m 10 ls []) from
    ih_10 _ 0 0 _ _ _ (Nat.lt_succ_self _) (by omega) (rfl) hP hS (lv_sub hl [3, 2, 1, 0] rfl)
  intro fu
  induction fu with
  | zero => intro j b H locs ls hfu; exact absurd hfu (Nat.not_lt_zero _)
  | succ fu ih_10 =>
    intro j b H locs ls hfu hj hbj hP hS hl
    refine lv_iload_n hx hb dX3_bestTurn_10 rfl (lv_at hl 3 rfl) ?_
    refine lv_bipush (v := 8) hx hb dX3_bestTurn_11 (by decide) ?_
    refine lv_icmp_ge (tgt := 40) hx hb dX3_bestTurn_13 (by decide) (fun c_13 => ?_) (fun c_13 => ?_)
    · have c_13 : 8 ≤ (j + 1) := (nI_leI (a := 8) (b := (j + 1)) (by omega) (by omega)).mp c_13
      obtain rfl : j = 7 := by omega
      refine lv_iload_n hx hb dX3_bestTurn_40 rfl (lv_at hl 1 rfl) ?_
      exact W.iret (v := (nI b)) hx hb hr (fun t ht hW => ⟨⟨(nI b), (), rfl, (by rw [hbj]), trivial⟩, hS.F ht⟩) hS.2.2 dX3_bestTurn_41
    · have c_13 : ¬ (8 ≤ (j + 1)) := fun h => c_13 ((nI_leI (a := 8) (b := (j + 1)) (by omega) (by omega)).mpr h)
      refine lv_aload_n hx hb dX3_bestTurn_16 rfl (lv_at hl 0 rfl) ?_
      refine lv_iload_n hx hb dX3_bestTurn_17 rfl (lv_at hl 3 rfl) ?_
      refine cx_ri (va_runV (As := [.int (nI (j + 1))]) (rest := []) ⟨hx, hb, hml, hown, hts⟩ (c_X3_differencesIfTurned l D T ad I R lm (j + 1) (hm) (hI) (by omega)) (cwV 1 hts gX3_bestTurn_X3_differencesIfTurned rfl rfl rfl (by decide +kernel) ⟨Nat.le_of_ble_eq_true rfl, Nat.le_of_ble_eq_true rfl⟩) ⟨CR.blind, va_recv hK hP (ci := 3) (q0 := 0) rfl cw_0, (CR.pre hP hK hN rfl)⟩ rfl rfl hl.1 rfl (lv_room (Nat.le_of_ble_eq_true rfl)) dX3_bestTurn_18 ⟨Nat.le_of_ble_eq_true rfl, Nat.le_of_ble_eq_true rfl⟩) hS hP (fun H locs hP hS => ?_)
      refine lv_istore (lv' := [(4, .int (dtS ((R 1)) (dr ((R 0)) lm) (j + 1) 8)), (0, .ref (ad 0)), (1, .int (nI b)), (2, .int (dtS (R 1) (dr (R 0) lm) b 8)), (3, .int (nI (j + 1)))]) hx hb dX3_bestTurn_21 hl (by decide) rfl (fun ls hl => ?_)
      refine lv_iload hx hb dX3_bestTurn_23 (lv_at hl 0 rfl) ?_
      refine lv_iload_n hx hb dX3_bestTurn_25 rfl (lv_at hl 3 rfl) ?_
      refine lv_icmp_ge (tgt := 34) hx hb dX3_bestTurn_26 (by decide) (fun c_26 => ?_) (fun c_26 => ?_)
      · refine lv_iinc (k := 4) (v := (nI (j + 1 + 1))) (lv' := [(3, .int (nI (j + 1 + 1))), (4, .int (dtS ((R 1)) (dr ((R 0)) lm) (j + 1) 8)), (0, .ref (ad 0)), (1, .int (nI b)), (2, .int (dtS (R 1) (dr (R 0) lm) b 8))]) hx hb dX3_bestTurn_34 hl rfl (nI_add (j + 1) 1) (by decide) rfl (fun ls hl => ?_)
        refine lv_goto (tgt := 10) hx hb dX3_bestTurn_37 (by decide) ?_
        exact ih_10 (j + 1) b _ _ _ (by omega) (by omega) (by first | (simp only [btS]; rw [← hbj, if_pos (Int32.not_le.mp c_26)]) | (simp only [btS]; rw [← hbj, if_neg (fun h => absurd c_26 (Int32.not_le.mpr h))])) hP hS (lv_sub hl [2, 3, 4, 0] rfl)
      · refine lv_iload hx hb dX3_bestTurn_29 (lv_at hl 0 rfl) ?_
        refine lv_istore_n (lv' := [(2, .int (dtS ((R 1)) (dr ((R 0)) lm) (j + 1) 8)), (4, .int (dtS ((R 1)) (dr ((R 0)) lm) (j + 1) 8)), (0, .ref (ad 0)), (1, .int (nI b)), (3, .int (nI (j + 1)))]) hx hb dX3_bestTurn_31 rfl hl (by decide) rfl (fun ls hl => ?_)
        refine lv_iload_n hx hb dX3_bestTurn_32 rfl (lv_at hl 4 rfl) ?_
        refine lv_istore_n (lv' := [(1, .int (nI (j + 1))), (2, .int (dtS ((R 1)) (dr ((R 0)) lm) (j + 1) 8)), (4, .int (dtS ((R 1)) (dr ((R 0)) lm) (j + 1) 8)), (0, .ref (ad 0)), (3, .int (nI (j + 1)))]) hx hb dX3_bestTurn_33 rfl hl (by decide) rfl (fun ls hl => ?_)
        refine lv_iinc (k := 4) (v := (nI (j + 1 + 1))) (lv' := [(3, .int (nI (j + 1 + 1))), (1, .int (nI (j + 1))), (2, .int (dtS ((R 1)) (dr ((R 0)) lm) (j + 1) 8)), (4, .int (dtS ((R 1)) (dr ((R 0)) lm) (j + 1) 8)), (0, .ref (ad 0))]) hx hb dX3_bestTurn_34 hl rfl (nI_add (j + 1) 1) (by decide) rfl (fun ls hl => ?_)
        refine lv_goto (tgt := 10) hx hb dX3_bestTurn_37 (by decide) ?_
        exact ih_10 (j + 1) (j + 1) _ _ _ (by omega) (by omega) (by first | (simp only [btS]; rw [← hbj, if_pos (Int32.not_le.mp c_26)]) | (simp only [btS]; rw [← hbj, if_neg (fun h => absurd c_26 (Int32.not_le.mpr h))])) hP hS (lv_sub hl [4, 1, 2, 0] rfl)

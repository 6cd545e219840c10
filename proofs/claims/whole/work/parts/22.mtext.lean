set_option maxHeartbeats 4000000 in
set_option maxRecDepth 100000 in
theorem c_X4_at (l : Launch) (D : va_G) (T : Nat → ClassId) (ad : Nat → Nat) (I : Nat → Int32) (R : Nat → Nat → Int32) (len : Nat) (i : Nat) (hlen : len ≤ 60) (hI2 : I 2 = nI len) (hi9 : i ≤ 99) : Met l yX4_at wsX4_at ({ frames := 0, cells := 0, slots := 0, locals := 0 }) (va_Pc [.ref (ad 0), .int (nI i)] (MR D T ad I R)) (RqI (atF (R 4) len i)) 0 0 (fun _ => False) := by
  refine Met.ofW (cc := cX4_at) (maxL := 2) (ret := (some .int)) (by decide) rfl ?_
  intro p e s m args_ below meth c s₁ B hml hv
  obtain ⟨rfl, hP, hK⟩ := hv
  have hx := B.exec
  have hb := B.bytes
  have hr := B.returns
  have hts := atoms_spec (ws := wsX4_at) B.pre
  have hown : s.vm.findClass RX4 = some m.cls := findClass_of_methodNamed B.named
  have hlocks := B.notSynchronized
  have hinX4 : ∀ w ∈ u_ws RX4 TX4 12, w ∈ wsX4_at := by decide +kernel
  have hS : va_S (fun _ => False) s.heap s.heap [] := va_S.rf
  have hl := lv_entry ([.ref (ad 0), .int (nI i)]) (n := 2) (Nat.le_of_ble_eq_true rfl)
  rw [lg_entry_eq]
  generalize (lg_sl ([.ref (ad 0), .int (nI i)]) ++ List.replicate (2 - (lg_sl ([.ref (ad 0), .int (nI i)])).length) Slot.unset).toArray = ls at hl ⊢
  have hl : lv_has ls 2 [(0, .ref (ad 0)), (1, .int (nI i))] := hl
  refine lv_iload_n hx hb dX4_at_0 rfl (lv_at hl 1 rfl) ?_
  refine lv_aload_n hx hb dX4_at_1 rfl (lv_at hl 0 rfl) ?_
  refine va_get (D := D) (ci := 4) (v := .int (I 2)) (C := RX4) (T := TX4) (N := 12) hx hb hts hinX4 hown hK hP 0 mw_0 rfl 7 (by decide) (hts (.fieldLink RX4 74 "SquareGearsModel" "length" "I") (by decide +kernel)) (fun _ h9 => h9) rfl dX4_at_2 ?_
  refine cx_top (show (I 2) = (nI len) from hI2) ?_
  refine lv_icmp_ge (tgt := 17) hx hb dX4_at_5 (by decide) (fun c_5 => ?_) (fun c_5 => ?_)
  · have c_5 : len ≤ i := (nI_leI (a := len) (b := i) (by omega) (by omega)).mp c_5
    refine lv_iconst (v := 0) hx hb dX4_at_17 (by decide) ?_
    exact W.iret (v := 0) hx hb hr (fun t ht hW => ⟨⟨0, (), rfl, (by first | exact at_t (by omega) | exact at_f (by omega)), trivial⟩, hS.F ht⟩) hS.2.2 dX4_at_18
  · have c_5 : ¬ (len ≤ i) := fun h => c_5 ((nI_leI (a := len) (b := i) (by omega) (by omega)).mpr h)
    refine lv_aload_n hx hb dX4_at_8 rfl (lv_at hl 0 rfl) ?_
    refine va_get (D := D) (ci := 4) (v := .ref (ad 5)) (C := RX4) (T := TX4) (N := 12) hx hb hts hinX4 hown hK hP 0 mw_0 rfl 6 (by decide) (hts (.fieldLink RX4 23 "SquareGearsModel" "text" "[I") (by decide +kernel)) (fun _ h9 => h9) rfl dX4_at_9 ?_
    refine lv_iload_n hx hb dX4_at_12 rfl (lv_at hl 1 rfl) ?_
    refine cx_iald (k := i) hx hb hK hP 5 1 mw_5 rfl (by omega) (by decide) dX4_at_13 ?_
    refine lv_goto (tgt := 18) hx hb dX4_at_14 (by decide) ?_
    exact W.iret (v := ((R 4) i)) hx hb hr (fun t ht hW => ⟨⟨((R 4) i), (), rfl, (by first | exact at_t (by omega) | exact at_f (by omega)), trivial⟩, hS.F ht⟩) hS.2.2 dX4_at_18
set_option maxHeartbeats 4000000 in
set_option maxRecDepth 100000 in
theorem c_X4_readPart (l : Launch) (D : va_G) (T : Nat → ClassId) (ad : Nat → Nat) (I : Nat → Int32) (R : Nat → Nat → Int32) (sz : Nat) (len : Nat) (i : Nat) (hAD : AD 7 ad) (hlen : len ≤ 60) (hI2 : I 2 = nI len) (hi9 : i ≤ 90) : Met l yX4_readPart wsX4_readPart ({ frames := 2, cells := 0, slots := 0, locals := 42 }) (va_Pc [.ref (ad 0), .int (nI i)] (MB D T ad I R sz)) (va_Qi (fun r (u9 : Unit) => r = ((rpF (atF (R 4) len) (I 4) i).1) ∧ True) (fun (u9 : Unit) t => va_P D vwCl (mw T ad (upd (upd (upd I 3 (atF (R 4) len i - 97)) 5 (rpL (atF (R 4) len) i)) 4 ((rpF (atF (R 4) len) (I 4) i).2)) R) t.heap) (cA 7 ad sz)) 0 0 (cA 7 ad sz) := by
  refine Met.ofW (cc := cX4_readPart) (maxL := 4) (ret := (some .int)) (by decide) rfl ?_
  intro p e s m args_ below meth c s₁ B hml hv
  obtain ⟨rfl, hsz, hP, hK⟩ := hv
  have hx := B.exec
  have hb := B.bytes
  have hr := B.returns
  have hts := atoms_spec (ws := wsX4_readPart) B.pre
  have hown : s.vm.findClass RX4 = some m.cls := findClass_of_methodNamed B.named
  have hlocks := B.notSynchronized
  have hinX4 : ∀ w ∈ u_ws RX4 TX4 12, w ∈ wsX4_readPart := by decide +kernel
  subst hsz
  have hS : va_S (cA 7 ad s.heap.size) s.heap s.heap [] := va_S.rf
  have hD : ∀ I R, va_D (cA 7 ad s.heap.size) (mw T ad I R) := fun I R => mw_D hAD (fun k hk => cA_in hk)
  have hl := lv_entry ([.ref (ad 0), .int (nI i)]) (n := 4) (Nat.le_of_ble_eq_true rfl)
  rw [lg_entry_eq]
  generalize (lg_sl ([.ref (ad 0), .int (nI i)]) ++ List.replicate (4 - (lg_sl ([.ref (ad 0), .int (nI i)])).length) Slot.unset).toArray = ls at hl ⊢
  have hl : lv_has ls 4 [(0, .ref (ad 0)), (1, .int (nI i))] := hl
  refine lv_aload_n hx hb dX4_readPart_0 rfl (lv_at hl 0 rfl) ?_
  refine lv_aload_n hx hb dX4_readPart_1 rfl (lv_at hl 0 rfl) ?_
  refine lv_iload_n hx hb dX4_readPart_2 rfl (lv_at hl 1 rfl) ?_
  refine cx_ri (va_runV (As := [.int (nI i)]) (rest := [.ref (ad 0)]) ⟨hx, hb, hml, hown, hts⟩ (c_X4_at l D T ad I R len i (hlen) (hI2) (by omega)) (cwV 1 hts gX4_readPart_X4_at rfl rfl rfl (by decide +kernel) ⟨Nat.le_of_ble_eq_true rfl, Nat.le_of_ble_eq_true rfl⟩) ⟨MR.blind, va_recv hK hP (ci := 4) (q0 := 0) rfl mw_0, (MR.pre hP hK rfl)⟩ rfl rfl hl.1 rfl (lv_room (Nat.le_of_ble_eq_true rfl)) dX4_readPart_3 ⟨Nat.le_of_ble_eq_true rfl, Nat.le_of_ble_eq_true rfl⟩) hS hP (fun H locs hP hS => ?_)
  refine lv_bipush (v := 97) hx hb dX4_readPart_6 (by decide) ?_
  refine lv_isub hx hb dX4_readPart_8 ?_
  refine cx_put (D := D) (ci := 4) (v := ((atF ((R 4)) len i) - 97)) (ty := .int) (C := RX4) (T := TX4) (N := 12) hx hb hts hinX4 tyX4 tyX4_ok nmX4 hown hK hP (hD _ _) hS 0 mw_0 rfl 8 (by decide) (hts (.fieldLink RX4 80 "SquareGearsModel" "wheel" "I") (by decide +kernel)) (fun _ h9 => h9) rfl (by decide +kernel) rfl rfl (Nat.le_of_ble_eq_true rfl) mw_I3 dX4_readPart_9 (fun H locs hP hS => ?_)
  refine lv_aload_n hx hb dX4_readPart_12 rfl (lv_at hl 0 rfl) ?_
  refine lv_aload_n hx hb dX4_readPart_13 rfl (lv_at hl 0 rfl) ?_
  refine lv_iload_n hx hb dX4_readPart_14 rfl (lv_at hl 1 rfl) ?_
  refine lv_iconst (v := 1) hx hb dX4_readPart_15 (by decide) ?_
  refine lv_iadd hx hb dX4_readPart_16 ?_
  refine cx_top (nI_add i 1) ?_
  refine cx_ri (va_runV (As := [.int (nI (i + 1))]) (rest := [.ref (ad 0)]) ⟨hx, hb, hml, hown, hts⟩ (c_X4_at l D T ad (upd I 3 ((atF ((R 4)) len i) - 97)) R len (i + 1) (hlen) (hI2) (by omega)) (cwV 1 hts gX4_readPart_X4_at rfl rfl rfl (by decide +kernel) ⟨Nat.le_of_ble_eq_true rfl, Nat.le_of_ble_eq_true rfl⟩) ⟨MR.blind, va_recv hK hP (ci := 4) (q0 := 0) rfl mw_0, (MR.pre hP hK rfl)⟩ rfl rfl hl.1 rfl (lv_room (Nat.le_of_ble_eq_true rfl)) dX4_readPart_17 ⟨Nat.le_of_ble_eq_true rfl, Nat.le_of_ble_eq_true rfl⟩) hS hP (fun H locs hP hS => ?_)
  refine lv_bipush (v := 33) hx hb dX4_readPart_20 (by decide) ?_
  refine lv_icmp_ne (tgt := 29) hx hb dX4_readPart_22 (by decide) (fun c_22 => ?_) (fun c_22 => ?_)
  · refine lv_iconst (v := 0) hx hb dX4_readPart_29 (by decide) ?_
    refine cx_put (D := D) (ci := 4) (v := 0) (ty := .boolean) (C := RX4) (T := TX4) (N := 12) hx hb hts hinX4 tyX4 tyX4_ok nmX4 hown hK hP (hD _ _) hS 0 mw_0 rfl 10 (by decide) (hts (.fieldLink RX4 83 "SquareGearsModel" "isLoss" "Z") (by decide +kernel)) (fun _ h9 => h9) rfl (by decide +kernel) (by rfl) (by rfl) (Nat.le_of_ble_eq_true rfl) mw_I5 dX4_readPart_30 (fun H locs hP hS => ?_)
    refine lv_aload_n hx hb dX4_readPart_33 rfl (lv_at hl 0 rfl) ?_
    refine va_get (D := D) (ci := 4) (v := .int (((atF ((R 4)) len i) - 97))) (C := RX4) (T := TX4) (N := 12) hx hb hts hinX4 hown hK hP 0 mw_0 rfl 8 (by decide) (hts (.fieldLink RX4 80 "SquareGearsModel" "wheel" "I") (by decide +kernel)) (fun _ h9 => h9) rfl dX4_readPart_34 ?_
    refine cx_ri (va_runS (As := [.int (((atF ((R 4)) len i) - 97))]) (rest := []) ⟨hx, hb, hml, hown, hts⟩ (c_X4_isOne l  (((atF ((R 4)) len i) - 97))) (va_cwS 1 hts gX4_readPart_X4_isOne rfl rfl rfl (by decide +kernel) ⟨Nat.le_of_ble_eq_true rfl, Nat.le_of_ble_eq_true rfl⟩) ⟨pc_blind, (fun U hU hW => ⟨rfl, trivial⟩)⟩ rfl rfl hl.1 rfl (lv_room (Nat.le_of_ble_eq_true rfl)) dX4_readPart_37 ⟨Nat.le_of_ble_eq_true rfl, Nat.le_of_ble_eq_true rfl⟩) hS hP (fun H locs hP hS => ?_)
    refine lv_if_ne (tgt := 47) hx hb dX4_readPart_40 (by decide) (fun c_40 => ?_) (fun c_40 => ?_)
    · refine lv_aload_n hx hb dX4_readPart_47 rfl (lv_at hl 0 rfl) ?_
      refine va_get (D := D) (ci := 4) (v := .int 0) (C := RX4) (T := TX4) (N := 12) hx hb hts hinX4 hown hK hP 0 mw_0 rfl 10 (by decide) (hts (.fieldLink RX4 83 "SquareGearsModel" "isLoss" "Z") (by decide +kernel)) (fun _ h9 => h9) rfl dX4_readPart_48 ?_
      refine lv_if_eq (tgt := 58) hx hb dX4_readPart_51 (by decide) (fun c_51 => ?_) (fun c_51 => absurd c_51 (by decide))
      refine lv_aload_n hx hb dX4_readPart_58 rfl (lv_at hl 0 rfl) ?_
      refine lv_iload_n hx hb dX4_readPart_59 rfl (lv_at hl 1 rfl) ?_
      refine lv_iconst (v := 1) hx hb dX4_readPart_60 (by decide) ?_
      refine lv_iadd hx hb dX4_readPart_61 ?_
      refine cx_top (nI_add i 1) ?_
      refine cx_ri (va_runV (As := [.int (nI (i + 1))]) (rest := []) ⟨hx, hb, hml, hown, hts⟩ (c_X4_at l D T ad (upd (upd I 3 ((atF ((R 4)) len i) - 97)) 5 0) R len (i + 1) (hlen) (hI2) (by omega)) (cwV 1 hts gX4_readPart_X4_at rfl rfl rfl (by decide +kernel) ⟨Nat.le_of_ble_eq_true rfl, Nat.le_of_ble_eq_true rfl⟩) ⟨MR.blind, va_recv hK hP (ci := 4) (q0 := 0) rfl mw_0, (MR.pre hP hK rfl)⟩ rfl rfl hl.1 rfl (lv_room (Nat.le_of_ble_eq_true rfl)) dX4_readPart_62 ⟨Nat.le_of_ble_eq_true rfl, Nat.le_of_ble_eq_true rfl⟩) hS hP (fun H locs hP hS => ?_)
      refine lv_bipush (v := 61) hx hb dX4_readPart_65 (by decide) ?_
      refine lv_icmp_eq (tgt := 75) hx hb dX4_readPart_67 (by decide) (fun c_67 => ?_) (fun c_67 => ?_)
      · refine lv_aload_n hx hb dX4_readPart_75 rfl (lv_at hl 0 rfl) ?_
        refine lv_iload_n hx hb dX4_readPart_76 rfl (lv_at hl 1 rfl) ?_
        refine lv_iconst (v := 2) hx hb dX4_readPart_77 (by decide) ?_
        refine lv_iadd hx hb dX4_readPart_78 ?_
        refine cx_top (nI_add i 2) ?_
        refine cx_ri (va_runV (As := [.int (nI (i + 2))]) (rest := []) ⟨hx, hb, hml, hown, hts⟩ (c_X4_at l D T ad (upd (upd I 3 ((atF ((R 4)) len i) - 97)) 5 0) R len (i + 2) (hlen) (hI2) (by omega)) (cwV 1 hts gX4_readPart_X4_at rfl rfl rfl (by decide +kernel) ⟨Nat.le_of_ble_eq_true rfl, Nat.le_of_ble_eq_true rfl⟩) ⟨MR.blind, va_recv hK hP (ci := 4) (q0 := 0) rfl mw_0, (MR.pre hP hK rfl)⟩ rfl rfl hl.1 rfl (lv_room (Nat.le_of_ble_eq_true rfl)) dX4_readPart_79 ⟨Nat.le_of_ble_eq_true rfl, Nat.le_of_ble_eq_true rfl⟩) hS hP (fun H locs hP hS => ?_)
        refine lv_bipush (v := 45) hx hb dX4_readPart_82 (by decide) ?_
        refine lv_icmp_ne (tgt := 91) hx hb dX4_readPart_84 (by decide) (fun c_84 => ?_) (fun c_84 => ?_)
        · refine lv_iconst (v := 0) hx hb dX4_readPart_91 (by decide) ?_
          refine lv_istore_n (lv' := [(2, .int 0), (0, .ref (ad 0)), (1, .int (nI i))]) hx hb dX4_readPart_92 rfl hl (by decide) rfl (fun ls hl => ?_)
          refine lv_iload_n hx hb dX4_readPart_93 rfl (lv_at hl 0 rfl) ?_
          refine lv_if_eq (tgt := 103) hx hb dX4_readPart_94 (by decide) (fun c_94 => ?_) (fun c_94 => absurd c_94 (by decide))
          refine lv_iload_n hx hb dX4_readPart_103 rfl (lv_at hl 2 rfl) ?_
          refine lv_iconst (v := 2) hx hb dX4_readPart_104 (by decide) ?_
          refine lv_iadd hx hb dX4_readPart_105 ?_
          refine cx_top (nI_add i 2) ?_
          refine lv_istore_n (lv' := [(3, .int (nI (i + 2))), (2, .int 0), (0, .ref (ad 0)), (1, .int (nI i))]) hx hb dX4_readPart_106 rfl hl (by decide) rfl (fun ls hl => ?_)
          refine lv_aload_n hx hb dX4_readPart_107 rfl (lv_at hl 2 rfl) ?_
          refine lv_aload_n hx hb dX4_readPart_108 rfl (lv_at hl 2 rfl) ?_
          refine lv_iload_n hx hb dX4_readPart_109 rfl (lv_at hl 0 rfl) ?_
          refine cx_ri (va_runV (As := [.int (nI (i + 2))]) (rest := [.ref (ad 0)]) ⟨hx, hb, hml, hown, hts⟩ (c_X4_at l D T ad (upd (upd I 3 ((atF ((R 4)) len i) - 97)) 5 0) R len (i + 2) (hlen) (hI2) (by omega)) (cwV 1 hts gX4_readPart_X4_at rfl rfl rfl (by decide +kernel) ⟨Nat.le_of_ble_eq_true rfl, Nat.le_of_ble_eq_true rfl⟩) ⟨MR.blind, va_recv hK hP (ci := 4) (q0 := 0) rfl mw_0, (MR.pre hP hK rfl)⟩ rfl rfl hl.1 rfl (lv_room (Nat.le_of_ble_eq_true rfl)) dX4_readPart_110 ⟨Nat.le_of_ble_eq_true rfl, Nat.le_of_ble_eq_true rfl⟩) hS hP (fun H locs hP hS => ?_)
          refine lv_bipush (v := 48) hx hb dX4_readPart_113 (by decide) ?_
          refine lv_isub hx hb dX4_readPart_115 ?_
          refine cx_put (D := D) (ci := 4) (v := ((atF ((R 4)) len (i + 2)) - 48)) (ty := .int) (C := RX4) (T := TX4) (N := 12) hx hb hts hinX4 tyX4 tyX4_ok nmX4 hown hK hP (hD _ _) hS 0 mw_0 rfl 9 (by decide) (hts (.fieldLink RX4 87 "SquareGearsModel" "amplitude" "I") (by decide +kernel)) (fun _ h9 => h9) rfl (by decide +kernel) rfl rfl (Nat.le_of_ble_eq_true rfl) mw_I4 dX4_readPart_116 (fun H locs hP hS => ?_)
          refine lv_aload_n hx hb dX4_readPart_119 rfl (lv_at hl 2 rfl) ?_
          refine va_get (D := D) (ci := 4) (v := .int (((atF ((R 4)) len (i + 2)) - 48))) (C := RX4) (T := TX4) (N := 12) hx hb hts hinX4 hown hK hP 0 mw_0 rfl 9 (by decide) (hts (.fieldLink RX4 87 "SquareGearsModel" "amplitude" "I") (by decide +kernel)) (fun _ h9 => h9) rfl dX4_readPart_120 ?_
          refine lv_iload_n hx hb dX4_readPart_123 rfl (lv_at hl 1 rfl) ?_
          refine lv_if_eq (tgt := 131) hx hb dX4_readPart_124 (by decide) (fun c_124 => ?_) (fun c_124 => absurd c_124 (by decide))
          refine lv_iconst (v := 0) hx hb dX4_readPart_131 (by decide) ?_
          refine lv_bipush (v := 9) hx hb dX4_readPart_132 (by decide) ?_
          refine cx_ri (va_runS (As := [.int (((atF ((R 4)) len (i + 2)) - 48)), .int 0, .int 9]) (rest := []) ⟨hx, hb, hml, hown, hts⟩ (c_X4_in l  (((atF ((R 4)) len (i + 2)) - 48)) 0 9) (va_cwS 3 hts gX4_readPart_X4_in rfl rfl rfl (by decide +kernel) ⟨Nat.le_of_ble_eq_true rfl, Nat.le_of_ble_eq_true rfl⟩) ⟨pc_blind, (fun U hU hW => ⟨rfl, trivial⟩)⟩ rfl rfl hl.1 rfl (lv_room (Nat.le_of_ble_eq_true rfl)) dX4_readPart_134 ⟨Nat.le_of_ble_eq_true rfl, Nat.le_of_ble_eq_true rfl⟩) hS hP (fun H locs hP hS => ?_)
          refine lv_if_ne (tgt := 144) hx hb dX4_readPart_137 (by decide) (fun c_137 => ?_) (fun c_137 => ?_)
          · refine lv_iinc (k := 0) (v := (nI (i + 2 + 1))) (lv' := [(3, .int (nI (i + 2 + 1))), (2, .int 0), (0, .ref (ad 0)), (1, .int (nI i))]) hx hb dX4_readPart_144 hl rfl (nI_add (i + 2) 1) (by decide) rfl (fun ls hl => ?_)
            refine lv_aload_n hx hb dX4_readPart_147 rfl (lv_at hl 2 rfl) ?_
            refine va_get (D := D) (ci := 4) (v := .int (((atF ((R 4)) len (i + 2)) - 48))) (C := RX4) (T := TX4) (N := 12) hx hb hts hinX4 hown hK hP 0 mw_0 rfl 9 (by decide) (hts (.fieldLink RX4 87 "SquareGearsModel" "amplitude" "I") (by decide +kernel)) (fun _ h9 => h9) rfl dX4_readPart_148 ?_
            refine lv_if_le (tgt := 192) hx hb dX4_readPart_151 (by decide) (fun c_151 => ?_) (fun c_151 => ?_)
            · refine lv_aload_n hx hb dX4_readPart_192 rfl (lv_at hl 2 rfl) ?_
              refine lv_iload_n hx hb dX4_readPart_193 rfl (lv_at hl 1 rfl) ?_
              refine lv_if_eq (tgt := 205) hx hb dX4_readPart_194 (by decide) (fun c_194 => ?_) (fun c_194 => absurd c_194 (by decide))
              refine lv_aload_n hx hb dX4_readPart_205 rfl (lv_at hl 2 rfl) ?_
              refine va_get (D := D) (ci := 4) (v := .int (((atF ((R 4)) len (i + 2)) - 48))) (C := RX4) (T := TX4) (N := 12) hx hb hts hinX4 hown hK hP 0 mw_0 rfl 9 (by decide) (hts (.fieldLink RX4 87 "SquareGearsModel" "amplitude" "I") (by decide +kernel)) (fun _ h9 => h9) rfl dX4_readPart_206 ?_
              refine cx_put (D := D) (ci := 4) (v := (((atF ((R 4)) len (i + 2)) - 48))) (ty := .int) (C := RX4) (T := TX4) (N := 12) hx hb hts hinX4 tyX4 tyX4_ok nmX4 hown hK hP (hD _ _) hS 0 mw_0 rfl 9 (by decide) (hts (.fieldLink RX4 87 "SquareGearsModel" "amplitude" "I") (by decide +kernel)) (fun _ h9 => h9) rfl (by decide +kernel) rfl rfl (Nat.le_of_ble_eq_true rfl) mw_I4 dX4_readPart_209 (fun H locs hP hS => ?_)
              refine lv_iload_n hx hb dX4_readPart_212 rfl (lv_at hl 0 rfl) ?_
              exact W.iret (v := (nI (i + 2 + 1))) hx hb hr (fun t ht hW => ⟨⟨(nI (i + 2 + 1)), (), rfl, ⟨by rw [rp_e c_40 c_22 c_67 c_84, rg_b c_137 c_151, sg0], trivial⟩, by show va_P _ _ _ _; rw [ht]; exact (by rw [rpl_f c_22, rp_e c_40 c_22 c_67 c_84, rg_b c_137 c_151, sg0]; exact hP)⟩, hS.F ht⟩) hS.2.2 dX4_readPart_213
            · refine lv_aload_n hx hb dX4_readPart_154 rfl (lv_at hl 2 rfl) ?_
              refine lv_iload_n hx hb dX4_readPart_155 rfl (lv_at hl 0 rfl) ?_
              refine cx_ri (va_runV (As := [.int (nI (i + 2 + 1))]) (rest := []) ⟨hx, hb, hml, hown, hts⟩ (c_X4_at l D T ad (upd (upd (upd I 3 ((atF ((R 4)) len i) - 97)) 5 0) 4 ((atF ((R 4)) len (i + 2)) - 48)) R len (i + 2 + 1) (hlen) (hI2) (by omega)) (cwV 1 hts gX4_readPart_X4_at rfl rfl rfl (by decide +kernel) ⟨Nat.le_of_ble_eq_true rfl, Nat.le_of_ble_eq_true rfl⟩) ⟨MR.blind, va_recv hK hP (ci := 4) (q0 := 0) rfl mw_0, (MR.pre hP hK rfl)⟩ rfl rfl hl.1 rfl (lv_room (Nat.le_of_ble_eq_true rfl)) dX4_readPart_156 ⟨Nat.le_of_ble_eq_true rfl, Nat.le_of_ble_eq_true rfl⟩) hS hP (fun H locs hP hS => ?_)
              refine lv_bipush (v := 48) hx hb dX4_readPart_159 (by decide) ?_
              refine lv_bipush (v := 57) hx hb dX4_readPart_161 (by decide) ?_
              refine cx_ri (va_runS (As := [.int (atF ((R 4)) len (i + 2 + 1)), .int 48, .int 57]) (rest := []) ⟨hx, hb, hml, hown, hts⟩ (c_X4_in l  (atF ((R 4)) len (i + 2 + 1)) 48 57) (va_cwS 3 hts gX4_readPart_X4_in rfl rfl rfl (by decide +kernel) ⟨Nat.le_of_ble_eq_true rfl, Nat.le_of_ble_eq_true rfl⟩) ⟨pc_blind, (fun U hU hW => ⟨rfl, trivial⟩)⟩ rfl rfl hl.1 rfl (lv_room (Nat.le_of_ble_eq_true rfl)) dX4_readPart_163 ⟨Nat.le_of_ble_eq_true rfl, Nat.le_of_ble_eq_true rfl⟩) hS hP (fun H locs hP hS => ?_)
              refine lv_if_eq (tgt := 192) hx hb dX4_readPart_166 (by decide) (fun c_166 => ?_) (fun c_166 => ?_)
              · refine lv_aload_n hx hb dX4_readPart_192 rfl (lv_at hl 2 rfl) ?_
                refine lv_iload_n hx hb dX4_readPart_193 rfl (lv_at hl 1 rfl) ?_
                refine lv_if_eq (tgt := 205) hx hb dX4_readPart_194 (by decide) (fun c_194 => ?_) (fun c_194 => absurd c_194 (by decide))
                refine lv_aload_n hx hb dX4_readPart_205 rfl (lv_at hl 2 rfl) ?_
                refine va_get (D := D) (ci := 4) (v := .int (((atF ((R 4)) len (i + 2)) - 48))) (C := RX4) (T := TX4) (N := 12) hx hb hts hinX4 hown hK hP 0 mw_0 rfl 9 (by decide) (hts (.fieldLink RX4 87 "SquareGearsModel" "amplitude" "I") (by decide +kernel)) (fun _ h9 => h9) rfl dX4_readPart_206 ?_
                refine cx_put (D := D) (ci := 4) (v := (((atF ((R 4)) len (i + 2)) - 48))) (ty := .int) (C := RX4) (T := TX4) (N := 12) hx hb hts hinX4 tyX4 tyX4_ok nmX4 hown hK hP (hD _ _) hS 0 mw_0 rfl 9 (by decide) (hts (.fieldLink RX4 87 "SquareGearsModel" "amplitude" "I") (by decide +kernel)) (fun _ h9 => h9) rfl (by decide +kernel) rfl rfl (Nat.le_of_ble_eq_true rfl) mw_I4 dX4_readPart_209 (fun H locs hP hS => ?_)
                refine lv_iload_n hx hb dX4_readPart_212 rfl (lv_at hl 0 rfl) ?_
                exact W.iret (v := (nI (i + 2 + 1))) hx hb hr (fun t ht hW => ⟨⟨(nI (i + 2 + 1)), (), rfl, ⟨by rw [rp_e c_40 c_22 c_67 c_84, rg_c c_137 c_151 c_166, sg0], trivial⟩, by show va_P _ _ _ _; rw [ht]; exact (by rw [rpl_f c_22, rp_e c_40 c_22 c_67 c_84, rg_c c_137 c_151 c_166, sg0]; exact hP)⟩, hS.F ht⟩) hS.2.2 dX4_readPart_213
              · refine lv_aload_n hx hb dX4_readPart_169 rfl (lv_at hl 2 rfl) ?_
                refine lv_bipush (v := 10) hx hb dX4_readPart_170 (by decide) ?_
                refine lv_aload_n hx hb dX4_readPart_172 rfl (lv_at hl 2 rfl) ?_
                refine va_get (D := D) (ci := 4) (v := .int (((atF ((R 4)) len (i + 2)) - 48))) (C := RX4) (T := TX4) (N := 12) hx hb hts hinX4 hown hK hP 0 mw_0 rfl 9 (by decide) (hts (.fieldLink RX4 87 "SquareGearsModel" "amplitude" "I") (by decide +kernel)) (fun _ h9 => h9) rfl dX4_readPart_173 ?_
                refine lv_imul hx hb dX4_readPart_176 ?_
                refine lv_aload_n hx hb dX4_readPart_177 rfl (lv_at hl 2 rfl) ?_
                refine lv_iload_n hx hb dX4_readPart_178 rfl (lv_at hl 0 rfl) ?_
                refine cx_ri (va_runV (As := [.int (nI (i + 2 + 1))]) (rest := [.int (10 * (((atF ((R 4)) len (i + 2)) - 48))), .ref (ad 0)]) ⟨hx, hb, hml, hown, hts⟩ (c_X4_at l D T ad (upd (upd (upd I 3 ((atF ((R 4)) len i) - 97)) 5 0) 4 ((atF ((R 4)) len (i + 2)) - 48)) R len (i + 2 + 1) (hlen) (hI2) (by omega)) (cwV 1 hts gX4_readPart_X4_at rfl rfl rfl (by decide +kernel) ⟨Nat.le_of_ble_eq_true rfl, Nat.le_of_ble_eq_true rfl⟩) ⟨MR.blind, va_recv hK hP (ci := 4) (q0 := 0) rfl mw_0, (MR.pre hP hK rfl)⟩ rfl rfl hl.1 rfl (lv_room (Nat.le_of_ble_eq_true rfl)) dX4_readPart_179 ⟨Nat.le_of_ble_eq_true rfl, Nat.le_of_ble_eq_true rfl⟩) hS hP (fun H locs hP hS => ?_)
                refine lv_iadd hx hb dX4_readPart_182 ?_
                refine lv_bipush (v := 48) hx hb dX4_readPart_183 (by decide) ?_
                refine lv_isub hx hb dX4_readPart_185 ?_
                refine cx_put (D := D) (ci := 4) (v := (((10 * (((atF ((R 4)) len (i + 2)) - 48))) + (atF ((R 4)) len (i + 2 + 1))) - 48)) (ty := .int) (C := RX4) (T := TX4) (N := 12) hx hb hts hinX4 tyX4 tyX4_ok nmX4 hown hK hP (hD _ _) hS 0 mw_0 rfl 9 (by decide) (hts (.fieldLink RX4 87 "SquareGearsModel" "amplitude" "I") (by decide +kernel)) (fun _ h9 => h9) rfl (by decide +kernel) rfl rfl (Nat.le_of_ble_eq_true rfl) mw_I4 dX4_readPart_186 (fun H locs hP hS => ?_)
                refine lv_iinc (k := 0) (v := (nI (i + 2 + 1 + 1))) (lv' := [(3, .int (nI (i + 2 + 1 + 1))), (2, .int 0), (0, .ref (ad 0)), (1, .int (nI i))]) hx hb dX4_readPart_189 hl rfl (nI_add (i + 2 + 1) 1) (by decide) rfl (fun ls hl => ?_)
                refine lv_aload_n hx hb dX4_readPart_192 rfl (lv_at hl 2 rfl) ?_
                refine lv_iload_n hx hb dX4_readPart_193 rfl (lv_at hl 1 rfl) ?_
                refine lv_if_eq (tgt := 205) hx hb dX4_readPart_194 (by decide) (fun c_194 => ?_) (fun c_194 => absurd c_194 (by decide))
                refine lv_aload_n hx hb dX4_readPart_205 rfl (lv_at hl 2 rfl) ?_
                refine va_get (D := D) (ci := 4) (v := .int ((((10 * (((atF ((R 4)) len (i + 2)) - 48))) + (atF ((R 4)) len (i + 2 + 1))) - 48))) (C := RX4) (T := TX4) (N := 12) hx hb hts hinX4 hown hK hP 0 mw_0 rfl 9 (by decide) (hts (.fieldLink RX4 87 "SquareGearsModel" "amplitude" "I") (by decide +kernel)) (fun _ h9 => h9) rfl dX4_readPart_206 ?_
                refine cx_put (D := D) (ci := 4) (v := ((((10 * (((atF ((R 4)) len (i + 2)) - 48))) + (atF ((R 4)) len (i + 2 + 1))) - 48))) (ty := .int) (C := RX4) (T := TX4) (N := 12) hx hb hts hinX4 tyX4 tyX4_ok nmX4 hown hK hP (hD _ _) hS 0 mw_0 rfl 9 (by decide) (hts (.fieldLink RX4 87 "SquareGearsModel" "amplitude" "I") (by decide +kernel)) (fun _ h9 => h9) rfl (by decide +kernel) rfl rfl (Nat.le_of_ble_eq_true rfl) mw_I4 dX4_readPart_209 (fun H locs hP hS => ?_)
                refine lv_iload_n hx hb dX4_readPart_212 rfl (lv_at hl 0 rfl) ?_
                exact W.iret (v := (nI (i + 2 + 1 + 1))) hx hb hr (fun t ht hW => ⟨⟨(nI (i + 2 + 1 + 1)), (), rfl, ⟨by rw [rp_e c_40 c_22 c_67 c_84, rg_d c_137 c_151 c_166, sg0], trivial⟩, by show va_P _ _ _ _; rw [ht]; exact (by rw [rpl_f c_22, rp_e c_40 c_22 c_67 c_84, rg_d c_137 c_151 c_166, sg0]; exact hP)⟩, hS.F ht⟩) hS.2.2 dX4_readPart_213
          · refine lv_iconst (v := (-1)) hx hb dX4_readPart_140 (by decide) ?_
            refine lv_iload_n hx hb dX4_readPart_141 rfl (lv_at hl 0 rfl) ?_
            refine lv_isub hx hb dX4_readPart_142 ?_
            exact W.iret (v := ((-1) - (nI (i + 2)))) hx hb hr (fun t ht hW => ⟨⟨((-1) - (nI (i + 2))), (), rfl, ⟨by rw [rp_e c_40 c_22 c_67 c_84, rg_a c_137], trivial⟩, by show va_P _ _ _ _; rw [ht]; exact (by rw [rpl_f c_22, rp_e c_40 c_22 c_67 c_84, rg_a c_137]; exact hP)⟩, hS.F ht⟩) hS.2.2 dX4_readPart_143
        · refine lv_iconst (v := 1) hx hb dX4_readPart_87 (by decide) ?_
          refine lv_goto (tgt := 92) hx hb dX4_readPart_88 (by decide) ?_
          refine lv_istore_n (lv' := [(2, .int 1), (0, .ref (ad 0)), (1, .int (nI i))]) hx hb dX4_readPart_92 rfl hl (by decide) rfl (fun ls hl => ?_)
          refine lv_iload_n hx hb dX4_readPart_93 rfl (lv_at hl 0 rfl) ?_
          refine lv_if_eq (tgt := 103) hx hb dX4_readPart_94 (by decide) (fun c_94 => absurd c_94 (by decide)) (fun c_94 => ?_)
          refine lv_iload_n hx hb dX4_readPart_97 rfl (lv_at hl 2 rfl) ?_
          refine lv_iconst (v := 3) hx hb dX4_readPart_98 (by decide) ?_
          refine lv_iadd hx hb dX4_readPart_99 ?_
          refine cx_top (nI_add i 3) ?_
          refine lv_goto (tgt := 106) hx hb dX4_readPart_100 (by decide) ?_
          refine lv_istore_n (lv' := [(3, .int (nI (i + 3))), (2, .int 1), (0, .ref (ad 0)), (1, .int (nI i))]) hx hb dX4_readPart_106 rfl hl (by decide) rfl (fun ls hl => ?_)
          refine lv_aload_n hx hb dX4_readPart_107 rfl (lv_at hl 2 rfl) ?_
          refine lv_aload_n hx hb dX4_readPart_108 rfl (lv_at hl 2 rfl) ?_
          refine lv_iload_n hx hb dX4_readPart_109 rfl (lv_at hl 0 rfl) ?_
          refine cx_ri (va_runV (As := [.int (nI (i + 3))]) (rest := [.ref (ad 0)]) ⟨hx, hb, hml, hown, hts⟩ (c_X4_at l D T ad (upd (upd I 3 ((atF ((R 4)) len i) - 97)) 5 0) R len (i + 3) (hlen) (hI2) (by omega)) (cwV 1 hts gX4_readPart_X4_at rfl rfl rfl (by decide +kernel) ⟨Nat.le_of_ble_eq_true rfl, Nat.le_of_ble_eq_true rfl⟩) ⟨MR.blind, va_recv hK hP (ci := 4) (q0 := 0) rfl mw_0, (MR.pre hP hK rfl)⟩ rfl rfl hl.1 rfl (lv_room (Nat.le_of_ble_eq_true rfl)) dX4_readPart_110 ⟨Nat.le_of_ble_eq_true rfl, Nat.le_of_ble_eq_true rfl⟩) hS hP (fun H locs hP hS => ?_)
          refine lv_bipush (v := 48) hx hb dX4_readPart_113 (by decide) ?_
          refine lv_isub hx hb dX4_readPart_115 ?_
          refine cx_put (D := D) (ci := 4) (v := ((atF ((R 4)) len (i + 3)) - 48)) (ty := .int) (C := RX4) (T := TX4) (N := 12) hx hb hts hinX4 tyX4 tyX4_ok nmX4 hown hK hP (hD _ _) hS 0 mw_0 rfl 9 (by decide) (hts (.fieldLink RX4 87 "SquareGearsModel" "amplitude" "I") (by decide +kernel)) (fun _ h9 => h9) rfl (by decide +kernel) rfl rfl (Nat.le_of_ble_eq_true rfl) mw_I4 dX4_readPart_116 (fun H locs hP hS => ?_)
          refine lv_aload_n hx hb dX4_readPart_119 rfl (lv_at hl 2 rfl) ?_
          refine va_get (D := D) (ci := 4) (v := .int (((atF ((R 4)) len (i + 3)) - 48))) (C := RX4) (T := TX4) (N := 12) hx hb hts hinX4 hown hK hP 0 mw_0 rfl 9 (by decide) (hts (.fieldLink RX4 87 "SquareGearsModel" "amplitude" "I") (by decide +kernel)) (fun _ h9 => h9) rfl dX4_readPart_120 ?_
          refine lv_iload_n hx hb dX4_readPart_123 rfl (lv_at hl 1 rfl) ?_
          refine lv_if_eq (tgt := 131) hx hb dX4_readPart_124 (by decide) (fun c_124 => absurd c_124 (by decide)) (fun c_124 => ?_)
          refine lv_iconst (v := 1) hx hb dX4_readPart_127 (by decide) ?_
          refine lv_goto (tgt := 132) hx hb dX4_readPart_128 (by decide) ?_
          refine lv_bipush (v := 9) hx hb dX4_readPart_132 (by decide) ?_
          refine cx_ri (va_runS (As := [.int (((atF ((R 4)) len (i + 3)) - 48)), .int 1, .int 9]) (rest := []) ⟨hx, hb, hml, hown, hts⟩ (c_X4_in l  (((atF ((R 4)) len (i + 3)) - 48)) 1 9) (va_cwS 3 hts gX4_readPart_X4_in rfl rfl rfl (by decide +kernel) ⟨Nat.le_of_ble_eq_true rfl, Nat.le_of_ble_eq_true rfl⟩) ⟨pc_blind, (fun U hU hW => ⟨rfl, trivial⟩)⟩ rfl rfl hl.1 rfl (lv_room (Nat.le_of_ble_eq_true rfl)) dX4_readPart_134 ⟨Nat.le_of_ble_eq_true rfl, Nat.le_of_ble_eq_true rfl⟩) hS hP (fun H locs hP hS => ?_)
          refine lv_if_ne (tgt := 144) hx hb dX4_readPart_137 (by decide) (fun c_137 => ?_) (fun c_137 => ?_)
          · refine lv_iinc (k := 0) (v := (nI (i + 3 + 1))) (lv' := [(3, .int (nI (i + 3 + 1))), (2, .int 1), (0, .ref (ad 0)), (1, .int (nI i))]) hx hb dX4_readPart_144 hl rfl (nI_add (i + 3) 1) (by decide) rfl (fun ls hl => ?_)
            refine lv_aload_n hx hb dX4_readPart_147 rfl (lv_at hl 2 rfl) ?_
            refine va_get (D := D) (ci := 4) (v := .int (((atF ((R 4)) len (i + 3)) - 48))) (C := RX4) (T := TX4) (N := 12) hx hb hts hinX4 hown hK hP 0 mw_0 rfl 9 (by decide) (hts (.fieldLink RX4 87 "SquareGearsModel" "amplitude" "I") (by decide +kernel)) (fun _ h9 => h9) rfl dX4_readPart_148 ?_
            refine lv_if_le (tgt := 192) hx hb dX4_readPart_151 (by decide) (fun c_151 => ?_) (fun c_151 => ?_)
            · refine lv_aload_n hx hb dX4_readPart_192 rfl (lv_at hl 2 rfl) ?_
              refine lv_iload_n hx hb dX4_readPart_193 rfl (lv_at hl 1 rfl) ?_
              refine lv_if_eq (tgt := 205) hx hb dX4_readPart_194 (by decide) (fun c_194 => absurd c_194 (by decide)) (fun c_194 => ?_)
              refine lv_aload_n hx hb dX4_readPart_197 rfl (lv_at hl 2 rfl) ?_
              refine va_get (D := D) (ci := 4) (v := .int (((atF ((R 4)) len (i + 3)) - 48))) (C := RX4) (T := TX4) (N := 12) hx hb hts hinX4 hown hK hP 0 mw_0 rfl 9 (by decide) (hts (.fieldLink RX4 87 "SquareGearsModel" "amplitude" "I") (by decide +kernel)) (fun _ h9 => h9) rfl dX4_readPart_198 ?_
              refine lv_ineg hx hb dX4_readPart_201 ?_
              refine lv_goto (tgt := 209) hx hb dX4_readPart_202 (by decide) ?_
              refine cx_put (D := D) (ci := 4) (v := (-(((atF ((R 4)) len (i + 3)) - 48)))) (ty := .int) (C := RX4) (T := TX4) (N := 12) hx hb hts hinX4 tyX4 tyX4_ok nmX4 hown hK hP (hD _ _) hS 0 mw_0 rfl 9 (by decide) (hts (.fieldLink RX4 87 "SquareGearsModel" "amplitude" "I") (by decide +kernel)) (fun _ h9 => h9) rfl (by decide +kernel) rfl rfl (Nat.le_of_ble_eq_true rfl) mw_I4 dX4_readPart_209 (fun H locs hP hS => ?_)
              refine lv_iload_n hx hb dX4_readPart_212 rfl (lv_at hl 0 rfl) ?_
              exact W.iret (v := (nI (i + 3 + 1))) hx hb hr (fun t ht hW => ⟨⟨(nI (i + 3 + 1)), (), rfl, ⟨by rw [rp_d c_40 c_22 c_67 c_84, rg_b c_137 c_151, sg1], trivial⟩, by show va_P _ _ _ _; rw [ht]; exact (by rw [rpl_f c_22, rp_d c_40 c_22 c_67 c_84, rg_b c_137 c_151, sg1]; exact hP)⟩, hS.F ht⟩) hS.2.2 dX4_readPart_213
            · refine lv_aload_n hx hb dX4_readPart_154 rfl (lv_at hl 2 rfl) ?_
              refine lv_iload_n hx hb dX4_readPart_155 rfl (lv_at hl 0 rfl) ?_
              refine cx_ri (va_runV (As := [.int (nI (i + 3 + 1))]) (rest := []) ⟨hx, hb, hml, hown, hts⟩ (c_X4_at l D T ad (upd (upd (upd I 3 ((atF ((R 4)) len i) - 97)) 5 0) 4 ((atF ((R 4)) len (i + 3)) - 48)) R len (i + 3 + 1) (hlen) (hI2) (by omega)) (cwV 1 hts gX4_readPart_X4_at rfl rfl rfl (by decide +kernel) ⟨Nat.le_of_ble_eq_true rfl, Nat.le_of_ble_eq_true rfl⟩) ⟨MR.blind, va_recv hK hP (ci := 4) (q0 := 0) rfl mw_0, (MR.pre hP hK rfl)⟩ rfl rfl hl.1 rfl (lv_room (Nat.le_of_ble_eq_true rfl)) dX4_readPart_156 ⟨Nat.le_of_ble_eq_true rfl, Nat.le_of_ble_eq_true rfl⟩) hS hP (fun H locs hP hS => ?_)
              refine lv_bipush (v := 48) hx hb dX4_readPart_159 (by decide) ?_
              refine lv_bipush (v := 57) hx hb dX4_readPart_161 (by decide) ?_
              refine cx_ri (va_runS (As := [.int (atF ((R 4)) len (i + 3 + 1)), .int 48, .int 57]) (rest := []) ⟨hx, hb, hml, hown, hts⟩ (c_X4_in l  (atF ((R 4)) len (i + 3 + 1)) 48 57) (va_cwS 3 hts gX4_readPart_X4_in rfl rfl rfl (by decide +kernel) ⟨Nat.le_of_ble_eq_true rfl, Nat.le_of_ble_eq_true rfl⟩) ⟨pc_blind, (fun U hU hW => ⟨rfl, trivial⟩)⟩ rfl rfl hl.1 rfl (lv_room (Nat.le_of_ble_eq_true rfl)) dX4_readPart_163 ⟨Nat.le_of_ble_eq_true rfl, Nat.le_of_ble_eq_true rfl⟩) hS hP (fun H locs hP hS => ?_)
              refine lv_if_eq (tgt := 192) hx hb dX4_readPart_166 (by decide) (fun c_166 => ?_) (fun c_166 => ?_)
              · refine lv_aload_n hx hb dX4_readPart_192 rfl (lv_at hl 2 rfl) ?_
                refine lv_iload_n hx hb dX4_readPart_193 rfl (lv_at hl 1 rfl) ?_
                refine lv_if_eq (tgt := 205) hx hb dX4_readPart_194 (by decide) (fun c_194 => absurd c_194 (by decide)) (fun c_194 => ?_)
                refine lv_aload_n hx hb dX4_readPart_197 rfl (lv_at hl 2 rfl) ?_
                refine va_get (D := D) (ci := 4) (v := .int (((atF ((R 4)) len (i + 3)) - 48))) (C := RX4) (T := TX4) (N := 12) hx hb hts hinX4 hown hK hP 0 mw_0 rfl 9 (by decide) (hts (.fieldLink RX4 87 "SquareGearsModel" "amplitude" "I") (by decide +kernel)) (fun _ h9 => h9) rfl dX4_readPart_198 ?_
                refine lv_ineg hx hb dX4_readPart_201 ?_
                refine lv_goto (tgt := 209) hx hb dX4_readPart_202 (by decide) ?_
                refine cx_put (D := D) (ci := 4) (v := (-(((atF ((R 4)) len (i + 3)) - 48)))) (ty := .int) (C := RX4) (T := TX4) (N := 12) hx hb hts hinX4 tyX4 tyX4_ok nmX4 hown hK hP (hD _ _) hS 0 mw_0 rfl 9 (by decide) (hts (.fieldLink RX4 87 "SquareGearsModel" "amplitude" "I") (by decide +kernel)) (fun _ h9 => h9) rfl (by decide +kernel) rfl rfl (Nat.le_of_ble_eq_true rfl) mw_I4 dX4_readPart_209 (fun H locs hP hS => ?_)
                refine lv_iload_n hx hb dX4_readPart_212 rfl (lv_at hl 0 rfl) ?_
                exact W.iret (v := (nI (i + 3 + 1))) hx hb hr (fun t ht hW => ⟨⟨(nI (i + 3 + 1)), (), rfl, ⟨by rw [rp_d c_40 c_22 c_67 c_84, rg_c c_137 c_151 c_166, sg1], trivial⟩, by show va_P _ _ _ _; rw [ht]; exact (by rw [rpl_f c_22, rp_d c_40 c_22 c_67 c_84, rg_c c_137 c_151 c_166, sg1]; exact hP)⟩, hS.F ht⟩) hS.2.2 dX4_readPart_213
              · refine lv_aload_n hx hb dX4_readPart_169 rfl (lv_at hl 2 rfl) ?_
                refine lv_bipush (v := 10) hx hb dX4_readPart_170 (by decide) ?_
                refine lv_aload_n hx hb dX4_readPart_172 rfl (lv_at hl 2 rfl) ?_
                refine va_get (D := D) (ci := 4) (v := .int (((atF ((R 4)) len (i + 3)) - 48))) (C := RX4) (T := TX4) (N := 12) hx hb hts hinX4 hown hK hP 0 mw_0 rfl 9 (by decide) (hts (.fieldLink RX4 87 "SquareGearsModel" "amplitude" "I") (by decide +kernel)) (fun _ h9 => h9) rfl dX4_readPart_173 ?_
                refine lv_imul hx hb dX4_readPart_176 ?_
                refine lv_aload_n hx hb dX4_readPart_177 rfl (lv_at hl 2 rfl) ?_
                refine lv_iload_n hx hb dX4_readPart_178 rfl (lv_at hl 0 rfl) ?_
                refine cx_ri (va_runV (As := [.int (nI (i + 3 + 1))]) (rest := [.int (10 * (((atF ((R 4)) len (i + 3)) - 48))), .ref (ad 0)]) ⟨hx, hb, hml, hown, hts⟩ (c_X4_at l D T ad (upd (upd (upd I 3 ((atF ((R 4)) len i) - 97)) 5 0) 4 ((atF ((R 4)) len (i + 3)) - 48)) R len (i + 3 + 1) (hlen) (hI2) (by omega)) (cwV 1 hts gX4_readPart_X4_at rfl rfl rfl (by decide +kernel) ⟨Nat.le_of_ble_eq_true rfl, Nat.le_of_ble_eq_true rfl⟩) ⟨MR.blind, va_recv hK hP (ci := 4) (q0 := 0) rfl mw_0, (MR.pre hP hK rfl)⟩ rfl rfl hl.1 rfl (lv_room (Nat.le_of_ble_eq_true rfl)) dX4_readPart_179 ⟨Nat.le_of_ble_eq_true rfl, Nat.le_of_ble_eq_true rfl⟩) hS hP (fun H locs hP hS => ?_)
                refine lv_iadd hx hb dX4_readPart_182 ?_
                refine lv_bipush (v := 48) hx hb dX4_readPart_183 (by decide) ?_
                refine lv_isub hx hb dX4_readPart_185 ?_
                refine cx_put (D := D) (ci := 4) (v := (((10 * (((atF ((R 4)) len (i + 3)) - 48))) + (atF ((R 4)) len (i + 3 + 1))) - 48)) (ty := .int) (C := RX4) (T := TX4) (N := 12) hx hb hts hinX4 tyX4 tyX4_ok nmX4 hown hK hP (hD _ _) hS 0 mw_0 rfl 9 (by decide) (hts (.fieldLink RX4 87 "SquareGearsModel" "amplitude" "I") (by decide +kernel)) (fun _ h9 => h9) rfl (by decide +kernel) rfl rfl (Nat.le_of_ble_eq_true rfl) mw_I4 dX4_readPart_186 (fun H locs hP hS => ?_)
                refine lv_iinc (k := 0) (v := (nI (i + 3 + 1 + 1))) (lv' := [(3, .int (nI (i + 3 + 1 + 1))), (2, .int 1), (0, .ref (ad 0)), (1, .int (nI i))]) hx hb dX4_readPart_189 hl rfl (nI_add (i + 3 + 1) 1) (by decide) rfl (fun ls hl => ?_)
                refine lv_aload_n hx hb dX4_readPart_192 rfl (lv_at hl 2 rfl) ?_
                refine lv_iload_n hx hb dX4_readPart_193 rfl (lv_at hl 1 rfl) ?_
                refine lv_if_eq (tgt := 205) hx hb dX4_readPart_194 (by decide) (fun c_194 => absurd c_194 (by decide)) (fun c_194 => ?_)
                refine lv_aload_n hx hb dX4_readPart_197 rfl (lv_at hl 2 rfl) ?_
                refine va_get (D := D) (ci := 4) (v := .int ((((10 * (((atF ((R 4)) len (i + 3)) - 48))) + (atF ((R 4)) len (i + 3 + 1))) - 48))) (C := RX4) (T := TX4) (N := 12) hx hb hts hinX4 hown hK hP 0 mw_0 rfl 9 (by decide) (hts (.fieldLink RX4 87 "SquareGearsModel" "amplitude" "I") (by decide +kernel)) (fun _ h9 => h9) rfl dX4_readPart_198 ?_
                refine lv_ineg hx hb dX4_readPart_201 ?_
                refine lv_goto (tgt := 209) hx hb dX4_readPart_202 (by decide) ?_
                refine cx_put (D := D) (ci := 4) (v := (-((((10 * (((atF ((R 4)) len (i + 3)) - 48))) + (atF ((R 4)) len (i + 3 + 1))) - 48)))) (ty := .int) (C := RX4) (T := TX4) (N := 12) hx hb hts hinX4 tyX4 tyX4_ok nmX4 hown hK hP (hD _ _) hS 0 mw_0 rfl 9 (by decide) (hts (.fieldLink RX4 87 "SquareGearsModel" "amplitude" "I") (by decide +kernel)) (fun _ h9 => h9) rfl (by decide +kernel) rfl rfl (Nat.le_of_ble_eq_true rfl) mw_I4 dX4_readPart_209 (fun H locs hP hS => ?_)
                refine lv_iload_n hx hb dX4_readPart_212 rfl (lv_at hl 0 rfl) ?_
                exact W.iret (v := (nI (i + 3 + 1 + 1))) hx hb hr (fun t ht hW => ⟨⟨(nI (i + 3 + 1 + 1)), (), rfl, ⟨by rw [rp_d c_40 c_22 c_67 c_84, rg_d c_137 c_151 c_166, sg1], trivial⟩, by show va_P _ _ _ _; rw [ht]; exact (by rw [rpl_f c_22, rp_d c_40 c_22 c_67 c_84, rg_d c_137 c_151 c_166, sg1]; exact hP)⟩, hS.F ht⟩) hS.2.2 dX4_readPart_213
          · refine lv_iconst (v := (-1)) hx hb dX4_readPart_140 (by decide) ?_
            refine lv_iload_n hx hb dX4_readPart_141 rfl (lv_at hl 0 rfl) ?_
            refine lv_isub hx hb dX4_readPart_142 ?_
            exact W.iret (v := ((-1) - (nI (i + 3)))) hx hb hr (fun t ht hW => ⟨⟨((-1) - (nI (i + 3))), (), rfl, ⟨by rw [rp_d c_40 c_22 c_67 c_84, rg_a c_137], trivial⟩, by show va_P _ _ _ _; rw [ht]; exact (by rw [rpl_f c_22, rp_d c_40 c_22 c_67 c_84, rg_a c_137]; exact hP)⟩, hS.F ht⟩) hS.2.2 dX4_readPart_143
      · refine lv_bipush (v := (-2)) hx hb dX4_readPart_70 (by decide) ?_
        refine lv_iload_n hx hb dX4_readPart_72 rfl (lv_at hl 1 rfl) ?_
        refine lv_isub hx hb dX4_readPart_73 ?_
        exact W.iret (v := ((-2) - (nI i))) hx hb hr (fun t ht hW => ⟨⟨((-2) - (nI i)), (), rfl, ⟨by rw [rp_c c_40 c_22 c_67], trivial⟩, by show va_P _ _ _ _; rw [ht]; exact (by rw [rpl_f c_22, rp_c c_40 c_22 c_67]; exact m_534 hP)⟩, hS.F ht⟩) hS.2.2 dX4_readPart_74
    · refine lv_iconst (v := (-1)) hx hb dX4_readPart_43 (by decide) ?_
      refine lv_iload_n hx hb dX4_readPart_44 rfl (lv_at hl 1 rfl) ?_
      refine lv_isub hx hb dX4_readPart_45 ?_
      exact W.iret (v := ((-1) - (nI i))) hx hb hr (fun t ht hW => ⟨⟨((-1) - (nI i)), (), rfl, ⟨by rw [rp_a c_40], trivial⟩, by show va_P _ _ _ _; rw [ht]; exact (by rw [rpl_f c_22, rp_a c_40]; exact m_534 hP)⟩, hS.F ht⟩) hS.2.2 dX4_readPart_46
  · refine lv_iconst (v := 1) hx hb dX4_readPart_25 (by decide) ?_
    refine lv_goto (tgt := 30) hx hb dX4_readPart_26 (by decide) ?_
    refine cx_put (D := D) (ci := 4) (v := 1) (ty := .boolean) (C := RX4) (T := TX4) (N := 12) hx hb hts hinX4 tyX4 tyX4_ok nmX4 hown hK hP (hD _ _) hS 0 mw_0 rfl 10 (by decide) (hts (.fieldLink RX4 83 "SquareGearsModel" "isLoss" "Z") (by decide +kernel)) (fun _ h9 => h9) rfl (by decide +kernel) (by rfl) (by rfl) (Nat.le_of_ble_eq_true rfl) mw_I5 dX4_readPart_30 (fun H locs hP hS => ?_)
    refine lv_aload_n hx hb dX4_readPart_33 rfl (lv_at hl 0 rfl) ?_
    refine va_get (D := D) (ci := 4) (v := .int (((atF ((R 4)) len i) - 97))) (C := RX4) (T := TX4) (N := 12) hx hb hts hinX4 hown hK hP 0 mw_0 rfl 8 (by decide) (hts (.fieldLink RX4 80 "SquareGearsModel" "wheel" "I") (by decide +kernel)) (fun _ h9 => h9) rfl dX4_readPart_34 ?_
    refine cx_ri (va_runS (As := [.int (((atF ((R 4)) len i) - 97))]) (rest := []) ⟨hx, hb, hml, hown, hts⟩ (c_X4_isOne l  (((atF ((R 4)) len i) - 97))) (va_cwS 1 hts gX4_readPart_X4_isOne rfl rfl rfl (by decide +kernel) ⟨Nat.le_of_ble_eq_true rfl, Nat.le_of_ble_eq_true rfl⟩) ⟨pc_blind, (fun U hU hW => ⟨rfl, trivial⟩)⟩ rfl rfl hl.1 rfl (lv_room (Nat.le_of_ble_eq_true rfl)) dX4_readPart_37 ⟨Nat.le_of_ble_eq_true rfl, Nat.le_of_ble_eq_true rfl⟩) hS hP (fun H locs hP hS => ?_)
    refine lv_if_ne (tgt := 47) hx hb dX4_readPart_40 (by decide) (fun c_40 => ?_) (fun c_40 => ?_)
    · refine lv_aload_n hx hb dX4_readPart_47 rfl (lv_at hl 0 rfl) ?_
      refine va_get (D := D) (ci := 4) (v := .int 1) (C := RX4) (T := TX4) (N := 12) hx hb hts hinX4 hown hK hP 0 mw_0 rfl 10 (by decide) (hts (.fieldLink RX4 83 "SquareGearsModel" "isLoss" "Z") (by decide +kernel)) (fun _ h9 => h9) rfl dX4_readPart_48 ?_
      refine lv_if_eq (tgt := 58) hx hb dX4_readPart_51 (by decide) (fun c_51 => absurd c_51 (by decide)) (fun c_51 => ?_)
      refine lv_iload_n hx hb dX4_readPart_54 rfl (lv_at hl 1 rfl) ?_
      refine lv_iconst (v := 2) hx hb dX4_readPart_55 (by decide) ?_
      refine lv_iadd hx hb dX4_readPart_56 ?_
      refine cx_top (nI_add i 2) ?_
      exact W.iret (v := (nI (i + 2))) hx hb hr (fun t ht hW => ⟨⟨(nI (i + 2)), (), rfl, ⟨by rw [rp_b c_40 c_22], trivial⟩, by show va_P _ _ _ _; rw [ht]; exact (by rw [rpl_t c_22, rp_b c_40 c_22]; exact m_534 hP)⟩, hS.F ht⟩) hS.2.2 dX4_readPart_57
    · refine lv_iconst (v := (-1)) hx hb dX4_readPart_43 (by decide) ?_
      refine lv_iload_n hx hb dX4_readPart_44 rfl (lv_at hl 1 rfl) ?_
      refine lv_isub hx hb dX4_readPart_45 ?_
      exact W.iret (v := ((-1) - (nI i))) hx hb hr (fun t ht hW => ⟨⟨((-1) - (nI i)), (), rfl, ⟨by rw [rp_a c_40], trivial⟩, by show va_P _ _ _ _; rw [ht]; exact (by rw [rpl_t c_22, rp_a c_40]; exact m_534 hP)⟩, hS.F ht⟩) hS.2.2 dX4_readPart_46

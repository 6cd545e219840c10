set_option maxHeartbeats 4000000 in
set_option maxRecDepth 100000 in
theorem c_X2_isLetter (l : Launch) (x : Int32) : Met l yX2_isLetter wsX2_isLetter ({ frames := 0, cells := 0, slots := 0, locals := 0 }) (va_Pc [.int x] (fun _ => True)) (RqI (ltI x)) 0 0 (fun _ => False) := by
  refine Met.ofW (cc := cX2_isLetter) (maxL := 1) (ret := (some .boolean)) (by decide) rfl ?_
  intro p e s m args_ below meth c s₁ B hml hv
  obtain ⟨rfl, -⟩ := hv
  have hP : va_P ((fun _ => 0), (fun _ _ => 0)) [] [] s.heap := fun k q h => by simp at h
  have hx := B.exec
  have hb := B.bytes
  have hr := B.returns
  have hts := atoms_spec (ws := wsX2_isLetter) B.pre
  have hown : s.vm.findClass RX2 = some m.cls := findClass_of_methodNamed B.named
  have hlocks := B.notSynchronized
  have hS : va_S (fun _ => False) s.heap s.heap [] := va_S.rf
  have hl := lv_entry ([.int x]) (n := 1) (Nat.le_of_ble_eq_true rfl)
  rw [lg_entry_eq]
  generalize (lg_sl ([.int x]) ++ List.replicate (1 - (lg_sl ([.int x])).length) Slot.unset).toArray = ls at hl ⊢
  have hl : lv_has ls 1 [(0, .int x)] := hl
  refine lv_iload_n hx hb dX2_isLetter_0 rfl (lv_at hl 0 rfl) ?_
  refine lv_bipush (v := 97) hx hb dX2_isLetter_1 (by decide) ?_
  refine lv_icmp_lt (tgt := 16) hx hb dX2_isLetter_3 (by decide) (fun c_3 => ?_) (fun c_3 => ?_)
  · refine lv_iconst (v := 0) hx hb dX2_isLetter_16 (by decide) ?_
    exact W.zret (v := 0) hx hb hr (rfl) (fun t ht hW => ⟨⟨0, (), rfl, (by first | exact lt_a c_3 | exact lt_b c_3 c_9 | exact lt_c c_3 c_9), trivial⟩, hS.F ht⟩) hS.2.2 dX2_isLetter_17
  · refine lv_iload_n hx hb dX2_isLetter_6 rfl (lv_at hl 0 rfl) ?_
    refine lv_bipush (v := 104) hx hb dX2_isLetter_7 (by decide) ?_
    refine lv_icmp_gt (tgt := 16) hx hb dX2_isLetter_9 (by decide) (fun c_9 => ?_) (fun c_9 => ?_)
    · refine lv_iconst (v := 0) hx hb dX2_isLetter_16 (by decide) ?_
      exact W.zret (v := 0) hx hb hr (rfl) (fun t ht hW => ⟨⟨0, (), rfl, (by first | exact lt_a c_3 | exact lt_b c_3 c_9 | exact lt_c c_3 c_9), trivial⟩, hS.F ht⟩) hS.2.2 dX2_isLetter_17
    · refine lv_iconst (v := 1) hx hb dX2_isLetter_12 (by decide) ?_
      refine lv_goto (tgt := 17) hx hb dX2_isLetter_13 (by decide) ?_
      exact W.zret (v := 1) hx hb hr (rfl) (fun t ht hW => ⟨⟨1, (), rfl, (by first | exact lt_a c_3 | exact lt_b c_3 c_9 | exact lt_c c_3 c_9), trivial⟩, hS.F ht⟩) hS.2.2 dX2_isLetter_17
set_option maxHeartbeats 4000000 in
set_option maxRecDepth 100000 in
theorem c_X2_isDigit (l : Launch) (x : Int32) : Met l yX2_isDigit wsX2_isDigit ({ frames := 0, cells := 0, slots := 0, locals := 0 }) (va_Pc [.int x] (fun _ => True)) (RqI (dgI x)) 0 0 (fun _ => False) := by
  refine Met.ofW (cc := cX2_isDigit) (maxL := 1) (ret := (some .boolean)) (by decide) rfl ?_
  intro p e s m args_ below meth c s₁ B hml hv
  obtain ⟨rfl, -⟩ := hv
  have hP : va_P ((fun _ => 0), (fun _ _ => 0)) [] [] s.heap := fun k q h => by simp at h
  have hx := B.exec
  have hb := B.bytes
  have hr := B.returns
  have hts := atoms_spec (ws := wsX2_isDigit) B.pre
  have hown : s.vm.findClass RX2 = some m.cls := findClass_of_methodNamed B.named
  have hlocks := B.notSynchronized
  have hS : va_S (fun _ => False) s.heap s.heap [] := va_S.rf
  have hl := lv_entry ([.int x]) (n := 1) (Nat.le_of_ble_eq_true rfl)
  rw [lg_entry_eq]
  generalize (lg_sl ([.int x]) ++ List.replicate (1 - (lg_sl ([.int x])).length) Slot.unset).toArray = ls at hl ⊢
  have hl : lv_has ls 1 [(0, .int x)] := hl
  refine lv_iload_n hx hb dX2_isDigit_0 rfl (lv_at hl 0 rfl) ?_
  refine lv_bipush (v := 48) hx hb dX2_isDigit_1 (by decide) ?_
  refine lv_icmp_lt (tgt := 16) hx hb dX2_isDigit_3 (by decide) (fun c_3 => ?_) (fun c_3 => ?_)
  · refine lv_iconst (v := 0) hx hb dX2_isDigit_16 (by decide) ?_
    exact W.zret (v := 0) hx hb hr (rfl) (fun t ht hW => ⟨⟨0, (), rfl, (by first | exact dg_a c_3 | exact dg_b c_3 c_9 | exact dg_c c_3 c_9), trivial⟩, hS.F ht⟩) hS.2.2 dX2_isDigit_17
  · refine lv_iload_n hx hb dX2_isDigit_6 rfl (lv_at hl 0 rfl) ?_
    refine lv_bipush (v := 57) hx hb dX2_isDigit_7 (by decide) ?_
    refine lv_icmp_gt (tgt := 16) hx hb dX2_isDigit_9 (by decide) (fun c_9 => ?_) (fun c_9 => ?_)
    · refine lv_iconst (v := 0) hx hb dX2_isDigit_16 (by decide) ?_
      exact W.zret (v := 0) hx hb hr (rfl) (fun t ht hW => ⟨⟨0, (), rfl, (by first | exact dg_a c_3 | exact dg_b c_3 c_9 | exact dg_c c_3 c_9), trivial⟩, hS.F ht⟩) hS.2.2 dX2_isDigit_17
    · refine lv_iconst (v := 1) hx hb dX2_isDigit_12 (by decide) ?_
      refine lv_goto (tgt := 17) hx hb dX2_isDigit_13 (by decide) ?_
      exact W.zret (v := 1) hx hb hr (rfl) (fun t ht hW => ⟨⟨1, (), rfl, (by first | exact dg_a c_3 | exact dg_b c_3 c_9 | exact dg_c c_3 c_9), trivial⟩, hS.F ht⟩) hS.2.2 dX2_isDigit_17
set_option maxHeartbeats 4000000 in
set_option maxRecDepth 100000 in
theorem c_X2_placeBehindFirstDigit (l : Launch) (x : Int32) : Met l yX2_placeBehindFirstDigit wsX2_placeBehindFirstDigit ({ frames := 1, cells := 0, slots := 0, locals := 20 }) (va_Pc [.int x] (fun _ => True)) (RqI (oI (fdO x))) 0 0 (fun _ => False) := by
  refine Met.ofW (cc := cX2_placeBehindFirstDigit) (maxL := 1) (ret := (some .int)) (by decide) rfl ?_
  intro p e s m args_ below meth c s₁ B hml hv
  obtain ⟨rfl, -⟩ := hv
  have hP : va_P ((fun _ => 0), (fun _ _ => 0)) [] [] s.heap := fun k q h => by simp at h
  have hx := B.exec
  have hb := B.bytes
  have hr := B.returns
  have hts := atoms_spec (ws := wsX2_placeBehindFirstDigit) B.pre
  have hown : s.vm.findClass RX2 = some m.cls := findClass_of_methodNamed B.named
  have hlocks := B.notSynchronized
  have hS : va_S (fun _ => False) s.heap s.heap [] := va_S.rf
  have hl := lv_entry ([.int x]) (n := 1) (Nat.le_of_ble_eq_true rfl)
  rw [lg_entry_eq]
  generalize (lg_sl ([.int x]) ++ List.replicate (1 - (lg_sl ([.int x])).length) Slot.unset).toArray = ls at hl ⊢
  have hl : lv_has ls 1 [(0, .int x)] := hl
  refine lv_iload_n hx hb dX2_placeBehindFirstDigit_0 rfl (lv_at hl 0 rfl) ?_
  refine cx_ri (va_runS (As := [.int x]) (rest := []) ⟨hx, hb, hml, hown, hts⟩ (c_X2_isDigit l  x) (va_cwS 1 hts gX2_placeBehindFirstDigit_X2_isDigit rfl rfl rfl (by decide +kernel) ⟨Nat.le_of_ble_eq_true rfl, Nat.le_of_ble_eq_true rfl⟩) ⟨pc_blind, (fun U hU hW => ⟨rfl, trivial⟩)⟩ rfl rfl hl.1 rfl (lv_room (Nat.le_of_ble_eq_true rfl)) dX2_placeBehindFirstDigit_1 ⟨Nat.le_of_ble_eq_true rfl, Nat.le_of_ble_eq_true rfl⟩) hS hP (fun H locs hP hS => ?_)
  refine lv_if_ne (tgt := 9) hx hb dX2_placeBehindFirstDigit_4 (by decide) (fun c_4 => ?_) (fun c_4 => ?_)
  · refine lv_iload_n hx hb dX2_placeBehindFirstDigit_9 rfl (lv_at hl 0 rfl) ?_
    refine lv_bipush (v := 48) hx hb dX2_placeBehindFirstDigit_10 (by decide) ?_
    refine lv_icmp_ne (tgt := 19) hx hb dX2_placeBehindFirstDigit_12 (by decide) (fun c_12 => ?_) (fun c_12 => ?_)
    · refine lv_iconst (v := 4) hx hb dX2_placeBehindFirstDigit_19 (by decide) ?_
      exact W.iret (v := 4) hx hb hr (fun t ht hW => ⟨⟨4, (), rfl, (by first | exact fdo_a c_4 | exact fdo_b c_4 c_12 | exact fdo_c c_4 c_12), trivial⟩, hS.F ht⟩) hS.2.2 dX2_placeBehindFirstDigit_20
    · refine lv_iconst (v := 5) hx hb dX2_placeBehindFirstDigit_15 (by decide) ?_
      refine lv_goto (tgt := 20) hx hb dX2_placeBehindFirstDigit_16 (by decide) ?_
      exact W.iret (v := 5) hx hb hr (fun t ht hW => ⟨⟨5, (), rfl, (by first | exact fdo_a c_4 | exact fdo_b c_4 c_12 | exact fdo_c c_4 c_12), trivial⟩, hS.F ht⟩) hS.2.2 dX2_placeBehindFirstDigit_20
  · refine lv_iconst (v := (-1)) hx hb dX2_placeBehindFirstDigit_7 (by decide) ?_
    exact W.iret (v := (-1)) hx hb hr (fun t ht hW => ⟨⟨(-1), (), rfl, (by first | exact fdo_a c_4 | exact fdo_b c_4 c_12 | exact fdo_c c_4 c_12), trivial⟩, hS.F ht⟩) hS.2.2 dX2_placeBehindFirstDigit_8
set_option maxHeartbeats 4000000 in
set_option maxRecDepth 100000 in
theorem c_X2_placeBehindWheel (l : Launch) (x : Int32) : Met l yX2_placeBehindWheel wsX2_placeBehindWheel ({ frames := 0, cells := 0, slots := 0, locals := 0 }) (va_Pc [.int x] (fun _ => True)) (RqI (oI (wbO x))) 0 0 (fun _ => False) := by
  refine Met.ofW (cc := cX2_placeBehindWheel) (maxL := 1) (ret := (some .int)) (by decide) rfl ?_
  intro p e s m args_ below meth c s₁ B hml hv
  obtain ⟨rfl, -⟩ := hv
  have hP : va_P ((fun _ => 0), (fun _ _ => 0)) [] [] s.heap := fun k q h => by simp at h
  have hx := B.exec
  have hb := B.bytes
  have hr := B.returns
  have hts := atoms_spec (ws := wsX2_placeBehindWheel) B.pre
  have hown : s.vm.findClass RX2 = some m.cls := findClass_of_methodNamed B.named
  have hlocks := B.notSynchronized
  have hS : va_S (fun _ => False) s.heap s.heap [] := va_S.rf
  have hl := lv_entry ([.int x]) (n := 1) (Nat.le_of_ble_eq_true rfl)
  rw [lg_entry_eq]
  generalize (lg_sl ([.int x]) ++ List.replicate (1 - (lg_sl ([.int x])).length) Slot.unset).toArray = ls at hl ⊢
  have hl : lv_has ls 1 [(0, .int x)] := hl
  refine lv_iload_n hx hb dX2_placeBehindWheel_0 rfl (lv_at hl 0 rfl) ?_
  refine lv_bipush (v := 59) hx hb dX2_placeBehindWheel_1 (by decide) ?_
  refine lv_icmp_ne (tgt := 10) hx hb dX2_placeBehindWheel_3 (by decide) (fun c_3 => ?_) (fun c_3 => ?_)
  · refine lv_iconst (v := (-1)) hx hb dX2_placeBehindWheel_10 (by decide) ?_
    exact W.iret (v := (-1)) hx hb hr (fun t ht hW => ⟨⟨(-1), (), rfl, (by first | exact wbo_a c_3 | exact wbo_b c_3), trivial⟩, hS.F ht⟩) hS.2.2 dX2_placeBehindWheel_11
  · refine lv_iconst (v := 0) hx hb dX2_placeBehindWheel_6 (by decide) ?_
    refine lv_goto (tgt := 11) hx hb dX2_placeBehindWheel_7 (by decide) ?_
    exact W.iret (v := 0) hx hb hr (fun t ht hW => ⟨⟨0, (), rfl, (by first | exact wbo_a c_3 | exact wbo_b c_3), trivial⟩, hS.F ht⟩) hS.2.2 dX2_placeBehindWheel_11
set_option maxHeartbeats 4000000 in
set_option maxRecDepth 100000 in
theorem c_X2_placeBehind (l : Launch) (pp : Nat) (x : Int32) (hp6 : pp < 6) : Met l yX2_placeBehind wsX2_placeBehind ({ frames := 2, cells := 0, slots := 0, locals := 40 }) (va_Pc [.int (nI pp), .int x] (fun _ => True)) (RqI (oI (pbO pp x))) 0 0 (fun _ => False) := by
  refine Met.ofW (cc := cX2_placeBehind) (maxL := 2) (ret := (some .int)) (by decide) rfl ?_
  intro p e s m args_ below meth c s₁ B hml hv
  obtain ⟨rfl, -⟩ := hv
  have hP : va_P ((fun _ => 0), (fun _ _ => 0)) [] [] s.heap := fun k q h => by simp at h
  have hx := B.exec
  have hb := B.bytes
  have hr := B.returns
  have hts := atoms_spec (ws := wsX2_placeBehind) B.pre
  have hown : s.vm.findClass RX2 = some m.cls := findClass_of_methodNamed B.named
  have hlocks := B.notSynchronized
  have hS : va_S (fun _ => False) s.heap s.heap [] := va_S.rf
  have hl := lv_entry ([.int (nI pp), .int x]) (n := 2) (Nat.le_of_ble_eq_true rfl)
  rw [lg_entry_eq]
  generalize (lg_sl ([.int (nI pp), .int x]) ++ List.replicate (2 - (lg_sl ([.int (nI pp), .int x])).length) Slot.unset).toArray = ls at hl ⊢
  have hl : lv_has ls 2 [(0, .int (nI pp)), (1, .int x)] := hl
  refine lv_iload_n hx hb dX2_placeBehind_0 rfl (lv_at hl 0 rfl) ?_
  rcases (show pp = 0 ∨ pp = 1 ∨ pp = 2 ∨ pp = 3 ∨ pp = 4 ∨ pp = 5 by omega) with rfl | rfl | rfl | rfl | rfl | rfl
  · refine lv_tableIn (tgt := 36) (off := 35) hx hb dX2_placeBehind_1 (by decide) (by decide) (by decide) (by decide) ?_
    refine lv_iload_n hx hb dX2_placeBehind_36 rfl (lv_at hl 1 rfl) ?_
    refine cx_ri (va_runS (As := [.int x]) (rest := []) ⟨hx, hb, hml, hown, hts⟩ (c_X2_isLetter l  x) (va_cwS 1 hts gX2_placeBehind_X2_isLetter rfl rfl rfl (by decide +kernel) ⟨Nat.le_of_ble_eq_true rfl, Nat.le_of_ble_eq_true rfl⟩) ⟨pc_blind, (fun U hU hW => ⟨rfl, trivial⟩)⟩ rfl rfl hl.1 rfl (lv_room (Nat.le_of_ble_eq_true rfl)) dX2_placeBehind_37 ⟨Nat.le_of_ble_eq_true rfl, Nat.le_of_ble_eq_true rfl⟩) hS hP (fun H locs hP hS => ?_)
    refine lv_if_eq (tgt := 47) hx hb dX2_placeBehind_40 (by decide) (fun c_40 => ?_) (fun c_40 => ?_)
    · refine lv_iconst (v := (-1)) hx hb dX2_placeBehind_47 (by decide) ?_
      exact W.iret (v := (-1)) hx hb hr (fun t ht hW => ⟨⟨(-1), (), rfl, (by first | exact pb0a c_40 | exact pb0b c_40), trivial⟩, hS.F ht⟩) hS.2.2 dX2_placeBehind_48
    · refine lv_iconst (v := 1) hx hb dX2_placeBehind_43 (by decide) ?_
      refine lv_goto (tgt := 48) hx hb dX2_placeBehind_44 (by decide) ?_
      exact W.iret (v := 1) hx hb hr (fun t ht hW => ⟨⟨1, (), rfl, (by first | exact pb0a c_40 | exact pb0b c_40), trivial⟩, hS.F ht⟩) hS.2.2 dX2_placeBehind_48
  · refine lv_tableIn (tgt := 49) (off := 48) hx hb dX2_placeBehind_1 (by decide) (by decide) (by decide) (by decide) ?_
    refine lv_iload_n hx hb dX2_placeBehind_49 rfl (lv_at hl 1 rfl) ?_
    refine lv_bipush (v := 61) hx hb dX2_placeBehind_50 (by decide) ?_
    refine lv_icmp_ne (tgt := 59) hx hb dX2_placeBehind_52 (by decide) (fun c_52 => ?_) (fun c_52 => ?_)
    · refine lv_iload_n hx hb dX2_placeBehind_59 rfl (lv_at hl 1 rfl) ?_
      refine lv_bipush (v := 33) hx hb dX2_placeBehind_60 (by decide) ?_
      refine lv_icmp_ne (tgt := 69) hx hb dX2_placeBehind_62 (by decide) (fun c_62 => ?_) (fun c_62 => ?_)
      · refine lv_iconst (v := (-1)) hx hb dX2_placeBehind_69 (by decide) ?_
        exact W.iret (v := (-1)) hx hb hr (fun t ht hW => ⟨⟨(-1), (), rfl, (by first | exact pb1a c_52 | exact pb1b c_52 c_62 | exact pb1c c_52 c_62), trivial⟩, hS.F ht⟩) hS.2.2 dX2_placeBehind_70
      · refine lv_iconst (v := 5) hx hb dX2_placeBehind_65 (by decide) ?_
        refine lv_goto (tgt := 70) hx hb dX2_placeBehind_66 (by decide) ?_
        exact W.iret (v := 5) hx hb hr (fun t ht hW => ⟨⟨5, (), rfl, (by first | exact pb1a c_52 | exact pb1b c_52 c_62 | exact pb1c c_52 c_62), trivial⟩, hS.F ht⟩) hS.2.2 dX2_placeBehind_70
    · refine lv_iconst (v := 2) hx hb dX2_placeBehind_55 (by decide) ?_
      refine lv_goto (tgt := 70) hx hb dX2_placeBehind_56 (by decide) ?_
      exact W.iret (v := 2) hx hb hr (fun t ht hW => ⟨⟨2, (), rfl, (by first | exact pb1a c_52 | exact pb1b c_52 c_62 | exact pb1c c_52 c_62), trivial⟩, hS.F ht⟩) hS.2.2 dX2_placeBehind_70
  · refine lv_tableIn (tgt := 71) (off := 70) hx hb dX2_placeBehind_1 (by decide) (by decide) (by decide) (by decide) ?_
    refine lv_iload_n hx hb dX2_placeBehind_71 rfl (lv_at hl 1 rfl) ?_
    refine lv_bipush (v := 45) hx hb dX2_placeBehind_72 (by decide) ?_
    refine lv_icmp_ne (tgt := 81) hx hb dX2_placeBehind_74 (by decide) (fun c_74 => ?_) (fun c_74 => ?_)
    · refine lv_iload_n hx hb dX2_placeBehind_81 rfl (lv_at hl 1 rfl) ?_
      refine cx_ri (va_runS (As := [.int x]) (rest := []) ⟨hx, hb, hml, hown, hts⟩ (c_X2_placeBehindFirstDigit l  x) (va_cwS 1 hts gX2_placeBehind_X2_placeBehindFirstDigit rfl rfl rfl (by decide +kernel) ⟨Nat.le_of_ble_eq_true rfl, Nat.le_of_ble_eq_true rfl⟩) ⟨pc_blind, (fun U hU hW => ⟨rfl, trivial⟩)⟩ rfl rfl hl.1 rfl (lv_room (Nat.le_of_ble_eq_true rfl)) dX2_placeBehind_82 ⟨Nat.le_of_ble_eq_true rfl, Nat.le_of_ble_eq_true rfl⟩) hS hP (fun H locs hP hS => ?_)
      exact W.iret (v := (oI (fdO x))) hx hb hr (fun t ht hW => ⟨⟨(oI (fdO x)), (), rfl, (by first | exact pb2a c_74 | exact pb2b c_74), trivial⟩, hS.F ht⟩) hS.2.2 dX2_placeBehind_85
    · refine lv_iconst (v := 3) hx hb dX2_placeBehind_77 (by decide) ?_
      refine lv_goto (tgt := 85) hx hb dX2_placeBehind_78 (by decide) ?_
      exact W.iret (v := 3) hx hb hr (fun t ht hW => ⟨⟨3, (), rfl, (by first | exact pb2a c_74 | exact pb2b c_74), trivial⟩, hS.F ht⟩) hS.2.2 dX2_placeBehind_85
  · refine lv_tableIn (tgt := 86) (off := 85) hx hb dX2_placeBehind_1 (by decide) (by decide) (by decide) (by decide) ?_
    refine lv_iload_n hx hb dX2_placeBehind_86 rfl (lv_at hl 1 rfl) ?_
    refine lv_bipush (v := 48) hx hb dX2_placeBehind_87 (by decide) ?_
    refine lv_icmp_ne (tgt := 96) hx hb dX2_placeBehind_89 (by decide) (fun c_89 => ?_) (fun c_89 => ?_)
    · refine lv_iload_n hx hb dX2_placeBehind_96 rfl (lv_at hl 1 rfl) ?_
      refine cx_ri (va_runS (As := [.int x]) (rest := []) ⟨hx, hb, hml, hown, hts⟩ (c_X2_placeBehindFirstDigit l  x) (va_cwS 1 hts gX2_placeBehind_X2_placeBehindFirstDigit rfl rfl rfl (by decide +kernel) ⟨Nat.le_of_ble_eq_true rfl, Nat.le_of_ble_eq_true rfl⟩) ⟨pc_blind, (fun U hU hW => ⟨rfl, trivial⟩)⟩ rfl rfl hl.1 rfl (lv_room (Nat.le_of_ble_eq_true rfl)) dX2_placeBehind_97 ⟨Nat.le_of_ble_eq_true rfl, Nat.le_of_ble_eq_true rfl⟩) hS hP (fun H locs hP hS => ?_)
      exact W.iret (v := (oI (fdO x))) hx hb hr (fun t ht hW => ⟨⟨(oI (fdO x)), (), rfl, (by first | exact pb3a c_89 | exact pb3b c_89), trivial⟩, hS.F ht⟩) hS.2.2 dX2_placeBehind_100
    · refine lv_iconst (v := (-1)) hx hb dX2_placeBehind_92 (by decide) ?_
      refine lv_goto (tgt := 100) hx hb dX2_placeBehind_93 (by decide) ?_
      exact W.iret (v := (-1)) hx hb hr (fun t ht hW => ⟨⟨(-1), (), rfl, (by first | exact pb3a c_89 | exact pb3b c_89), trivial⟩, hS.F ht⟩) hS.2.2 dX2_placeBehind_100
  · refine lv_tableIn (tgt := 101) (off := 100) hx hb dX2_placeBehind_1 (by decide) (by decide) (by decide) (by decide) ?_
    refine lv_iload_n hx hb dX2_placeBehind_101 rfl (lv_at hl 1 rfl) ?_
    refine cx_ri (va_runS (As := [.int x]) (rest := []) ⟨hx, hb, hml, hown, hts⟩ (c_X2_isDigit l  x) (va_cwS 1 hts gX2_placeBehind_X2_isDigit rfl rfl rfl (by decide +kernel) ⟨Nat.le_of_ble_eq_true rfl, Nat.le_of_ble_eq_true rfl⟩) ⟨pc_blind, (fun U hU hW => ⟨rfl, trivial⟩)⟩ rfl rfl hl.1 rfl (lv_room (Nat.le_of_ble_eq_true rfl)) dX2_placeBehind_102 ⟨Nat.le_of_ble_eq_true rfl, Nat.le_of_ble_eq_true rfl⟩) hS hP (fun H locs hP hS => ?_)
    refine lv_if_eq (tgt := 112) hx hb dX2_placeBehind_105 (by decide) (fun c_105 => ?_) (fun c_105 => ?_)
    · refine lv_iload_n hx hb dX2_placeBehind_112 rfl (lv_at hl 1 rfl) ?_
      refine cx_ri (va_runS (As := [.int x]) (rest := []) ⟨hx, hb, hml, hown, hts⟩ (c_X2_placeBehindWheel l  x) (va_cwS 1 hts gX2_placeBehind_X2_placeBehindWheel rfl rfl rfl (by decide +kernel) ⟨Nat.le_of_ble_eq_true rfl, Nat.le_of_ble_eq_true rfl⟩) ⟨pc_blind, (fun U hU hW => ⟨rfl, trivial⟩)⟩ rfl rfl hl.1 rfl (lv_room (Nat.le_of_ble_eq_true rfl)) dX2_placeBehind_113 ⟨Nat.le_of_ble_eq_true rfl, Nat.le_of_ble_eq_true rfl⟩) hS hP (fun H locs hP hS => ?_)
      exact W.iret (v := (oI (wbO x))) hx hb hr (fun t ht hW => ⟨⟨(oI (wbO x)), (), rfl, (by first | exact pb4a c_105 | exact pb4b c_105), trivial⟩, hS.F ht⟩) hS.2.2 dX2_placeBehind_116
    · refine lv_iconst (v := 5) hx hb dX2_placeBehind_108 (by decide) ?_
      refine lv_goto (tgt := 116) hx hb dX2_placeBehind_109 (by decide) ?_
      exact W.iret (v := 5) hx hb hr (fun t ht hW => ⟨⟨5, (), rfl, (by first | exact pb4a c_105 | exact pb4b c_105), trivial⟩, hS.F ht⟩) hS.2.2 dX2_placeBehind_116
  · refine lv_tableOut (tgt := 117) hx hb dX2_placeBehind_1 (Or.inr (by decide)) (by decide) ?_
    refine lv_iload_n hx hb dX2_placeBehind_117 rfl (lv_at hl 1 rfl) ?_
    refine cx_ri (va_runS (As := [.int x]) (rest := []) ⟨hx, hb, hml, hown, hts⟩ (c_X2_placeBehindWheel l  x) (va_cwS 1 hts gX2_placeBehind_X2_placeBehindWheel rfl rfl rfl (by decide +kernel) ⟨Nat.le_of_ble_eq_true rfl, Nat.le_of_ble_eq_true rfl⟩) ⟨pc_blind, (fun U hU hW => ⟨rfl, trivial⟩)⟩ rfl rfl hl.1 rfl (lv_room (Nat.le_of_ble_eq_true rfl)) dX2_placeBehind_118 ⟨Nat.le_of_ble_eq_true rfl, Nat.le_of_ble_eq_true rfl⟩) hS hP (fun H locs hP hS => ?_)
    exact W.iret (v := (oI (wbO x))) hx hb hr (fun t ht hW => ⟨⟨(oI (wbO x)), (), rfl, (pb5a), trivial⟩, hS.F ht⟩) hS.2.2 dX2_placeBehind_121
set_option maxHeartbeats 4000000 in
set_option maxRecDepth 100000 in
theorem c_X2_isFull (l : Launch) (D : va_G) (T : Nat → ClassId) (ad : Nat → Nat) (I : Nat → Int32) (R : Nat → Nat → Int32) (len : Nat) (hlen : len ≤ 60) (hI3 : I 3 = nI len) : Met l yX2_isFull wsX2_isFull ({ frames := 0, cells := 0, slots := 0, locals := 0 }) (va_Pc [.ref (ad 7)] (CR D T ad I R)) (RqI (if len < 60 then 0 else 1)) 0 0 (fun _ => False) := by
  refine Met.ofW (cc := cX2_isFull) (maxL := 1) (ret := (some .boolean)) (by decide) rfl ?_
  intro p e s m args_ below meth c s₁ B hml hv
  obtain ⟨rfl, hP, hK, hN⟩ := hv
  have hx := B.exec
  have hb := B.bytes
  have hr := B.returns
  have hts := atoms_spec (ws := wsX2_isFull) B.pre
  have hown : s.vm.findClass RX2 = some m.cls := findClass_of_methodNamed B.named
  have hlocks := B.notSynchronized
  have hinX2 : ∀ w ∈ u_ws RX2 TX2 2, w ∈ wsX2_isFull := by decide +kernel
  have hS : va_S (fun _ => False) s.heap s.heap [] := va_S.rf
  have hl := lv_entry ([.ref (ad 7)]) (n := 1) (Nat.le_of_ble_eq_true rfl)
  rw [lg_entry_eq]
  generalize (lg_sl ([.ref (ad 7)]) ++ List.replicate (1 - (lg_sl ([.ref (ad 7)])).length) Slot.unset).toArray = ls at hl ⊢
  have hl : lv_has ls 1 [(0, .ref (ad 7))] := hl
  refine lv_aload_n hx hb dX2_isFull_0 rfl (lv_at hl 0 rfl) ?_
  refine va_get (D := D) (ci := 2) (v := .int (I 3)) (C := RX2) (T := TX2) (N := 2) hx hb hts hinX2 hown hK hP 7 cw_7 rfl 1 (by decide) (hts (.fieldLink RX2 15 "SquareGears$WheelText" "length" "I") (by decide +kernel)) (fun _ h9 => h9) rfl dX2_isFull_1 ?_
  refine cx_top (show (I 3) = (nI len) from hI3) ?_
  refine lv_bipush (v := 60) hx hb dX2_isFull_4 (by decide) ?_
  refine lv_icmp_lt (tgt := 13) hx hb dX2_isFull_6 (by decide) (fun c_6 => ?_) (fun c_6 => ?_)
  · have c_6 : len < 60 := (nI_ltI (a := len) (b := 60) (by omega) (by omega)).mp c_6
    refine lv_iconst (v := 0) hx hb dX2_isFull_13 (by decide) ?_
    exact W.zret (v := 0) hx hb hr (rfl) (fun t ht hW => ⟨⟨0, (), rfl, (by first | exact (if_pos c_6).symm | exact (if_neg c_6).symm), trivial⟩, hS.F ht⟩) hS.2.2 dX2_isFull_14
  · have c_6 : ¬ (len < 60) := fun h => c_6 ((nI_ltI (a := len) (b := 60) (by omega) (by omega)).mpr h)
    refine lv_iconst (v := 1) hx hb dX2_isFull_9 (by decide) ?_
    refine lv_goto (tgt := 14) hx hb dX2_isFull_10 (by decide) ?_
    exact W.zret (v := 1) hx hb hr (rfl) (fun t ht hW => ⟨⟨1, (), rfl, (by first | exact (if_pos c_6).symm | exact (if_neg c_6).symm), trivial⟩, hS.F ht⟩) hS.2.2 dX2_isFull_14
set_option maxHeartbeats 4000000 in
set_option maxRecDepth 100000 in
theorem c_X2_empty (l : Launch) (D : va_G) (T : Nat → ClassId) (ad : Nat → Nat) (I : Nat → Int32) (R : Nat → Nat → Int32) (sz : Nat) (hAD : AD 34 ad) : Met l yX2_empty wsX2_empty ({ frames := 0, cells := 0, slots := 0, locals := 0 }) (va_Pc [.ref (ad 7)] (CB D T ad I R sz)) (va_Qv (fun (u9 : Unit) => True) (fun (u9 : Unit) t => va_P D vwCl (cw T ad (upd I 3 0) R) t.heap) (cA 34 ad sz)) 0 0 (cA 34 ad sz) := by
  refine Met.ofW (cc := cX2_empty) (maxL := 1) (ret := none) (by decide) rfl ?_
  intro p e s m args_ below meth c s₁ B hml hv
  obtain ⟨rfl, hsz, hP, hK, hN⟩ := hv
  have hx := B.exec
  have hb := B.bytes
  have hr := B.returns
  have hts := atoms_spec (ws := wsX2_empty) B.pre
  have hown : s.vm.findClass RX2 = some m.cls := findClass_of_methodNamed B.named
  have hlocks := B.notSynchronized
  have hinX2 : ∀ w ∈ u_ws RX2 TX2 2, w ∈ wsX2_empty := by decide +kernel
  subst hsz
  have hS : va_S (cA 34 ad s.heap.size) s.heap s.heap [] := va_S.rf
  have hD : ∀ I R, va_D (cA 34 ad s.heap.size) (cw T ad I R) := fun I R => cw_D hAD (fun k hk => cA_in hk)
  have hl := lv_entry ([.ref (ad 7)]) (n := 1) (Nat.le_of_ble_eq_true rfl)
  rw [lg_entry_eq]
  generalize (lg_sl ([.ref (ad 7)]) ++ List.replicate (1 - (lg_sl ([.ref (ad 7)])).length) Slot.unset).toArray = ls at hl ⊢
  have hl : lv_has ls 1 [(0, .ref (ad 7))] := hl
  refine lv_aload_n hx hb dX2_empty_0 rfl (lv_at hl 0 rfl) ?_
  refine lv_iconst (v := 0) hx hb dX2_empty_1 (by decide) ?_
  refine cx_put (D := D) (ci := 2) (v := 0) (ty := .int) (C := RX2) (T := TX2) (N := 2) hx hb hts hinX2 tyX2 tyX2_ok nmX2 hown hK hP (hD _ _) hS 7 cw_7 rfl 1 (by decide) (hts (.fieldLink RX2 15 "SquareGears$WheelText" "length" "I") (by decide +kernel)) (fun _ h9 => h9) rfl (by decide +kernel) rfl rfl (Nat.le_of_ble_eq_true rfl) cw_I3 dX2_empty_2 (fun H locs hP hS => ?_)
  exact W.vret hx hb hr (fun t ht hW => ⟨⟨(), rfl, trivial, by show va_P _ _ _ _; rw [ht]; exact hP⟩, hS.F ht⟩) hS.2.2 dX2_empty_5
set_option maxHeartbeats 4000000 in
set_option maxRecDepth 100000 in
theorem c_X2_put (l : Launch) (D : va_G) (T : Nat → ClassId) (ad : Nat → Nat) (I : Nat → Int32) (R : Nat → Nat → Int32) (sz : Nat) (len : Nat) (q : Nat) (hAD : AD 34 ad) (hlen : len < 60) (hI3 : I 3 = nI len) (hq : q < 65536) : Met l yX2_put wsX2_put ({ frames := 0, cells := 0, slots := 0, locals := 0 }) (va_Pc [.ref (ad 7), .int (nI q)] (CB D T ad I R sz)) (va_Qv (fun (u9 : Unit) => True) (fun (u9 : Unit) t => va_P D vwCl (cw T ad (upd I 3 (nI (len + 1))) (updR R 18 (upd (R 18) len (nI q)))) t.heap) (cA 34 ad sz)) 0 0 (cA 34 ad sz) := by
  refine Met.ofW (cc := cX2_put) (maxL := 2) (ret := none) (by decide) rfl ?_
  intro p e s m args_ below meth c s₁ B hml hv
  obtain ⟨rfl, hsz, hP, hK, hN⟩ := hv
  have hx := B.exec
  have hb := B.bytes
  have hr := B.returns
  have hts := atoms_spec (ws := wsX2_put) B.pre
  have hown : s.vm.findClass RX2 = some m.cls := findClass_of_methodNamed B.named
  have hlocks := B.notSynchronized
  have hinX2 : ∀ w ∈ u_ws RX2 TX2 2, w ∈ wsX2_put := by decide +kernel
  subst hsz
  have hS : va_S (cA 34 ad s.heap.size) s.heap s.heap [] := va_S.rf
  have hD : ∀ I R, va_D (cA 34 ad s.heap.size) (cw T ad I R) := fun I R => cw_D hAD (fun k hk => cA_in hk)
  have hl := lv_entry ([.ref (ad 7), .int (nI q)]) (n := 2) (Nat.le_of_ble_eq_true rfl)
  rw [lg_entry_eq]
  generalize (lg_sl ([.ref (ad 7), .int (nI q)]) ++ List.replicate (2 - (lg_sl ([.ref (ad 7), .int (nI q)])).length) Slot.unset).toArray = ls at hl ⊢
  have hl : lv_has ls 2 [(0, .ref (ad 7)), (1, .int (nI q))] := hl
  refine lv_aload_n hx hb dX2_put_0 rfl (lv_at hl 0 rfl) ?_
  refine va_get (D := D) (ci := 2) (v := .ref (ad 8)) (C := RX2) (T := TX2) (N := 2) hx hb hts hinX2 hown hK hP 7 cw_7 rfl 0 (by decide) (hts (.fieldLink RX2 11 "SquareGears$WheelText" "signs" "[C") (by decide +kernel)) (fun _ h9 => h9) rfl dX2_put_1 ?_
  refine lv_aload_n hx hb dX2_put_4 rfl (lv_at hl 0 rfl) ?_
  refine va_get (D := D) (ci := 2) (v := .int (I 3)) (C := RX2) (T := TX2) (N := 2) hx hb hts hinX2 hown hK hP 7 cw_7 rfl 1 (by decide) (hts (.fieldLink RX2 15 "SquareGears$WheelText" "length" "I") (by decide +kernel)) (fun _ h9 => h9) rfl dX2_put_5 ?_
  refine cx_top (show (I 3) = (nI len) from hI3) ?_
  refine lv_iload_n hx hb dX2_put_8 rfl (lv_at hl 1 rfl) ?_
  refine cx_cast (k := len) hx hb hK hP (hD _ _) hS 8 0 cw_8 rfl (by omega) (by decide) (nar_c hq) cw_R18 dX2_put_9 (fun H locs hP hS => ?_)
  refine lv_aload_n hx hb dX2_put_10 rfl (lv_at hl 0 rfl) ?_
  refine lv_dup hx hb dX2_put_11 rfl ?_
  refine va_get (D := D) (ci := 2) (v := .int (I 3)) (C := RX2) (T := TX2) (N := 2) hx hb hts hinX2 hown hK hP 7 cw_7 rfl 1 (by decide) (hts (.fieldLink RX2 15 "SquareGears$WheelText" "length" "I") (by decide +kernel)) (fun _ h9 => h9) rfl dX2_put_12 ?_
  refine cx_top (show (I 3) = (nI len) from hI3) ?_
  refine lv_iconst (v := 1) hx hb dX2_put_15 (by decide) ?_
  refine lv_iadd hx hb dX2_put_16 ?_
  refine cx_top (nI_add len 1) ?_
  refine cx_put (D := D) (ci := 2) (v := (nI (len + 1))) (ty := .int) (C := RX2) (T := TX2) (N := 2) hx hb hts hinX2 tyX2 tyX2_ok nmX2 hown hK hP (hD _ _) hS 7 cw_7 rfl 1 (by decide) (hts (.fieldLink RX2 15 "SquareGears$WheelText" "length" "I") (by decide +kernel)) (fun _ h9 => h9) rfl (by decide +kernel) rfl rfl (Nat.le_of_ble_eq_true rfl) cw_I3 dX2_put_17 (fun H locs hP hS => ?_)
  exact W.vret hx hb hr (fun t ht hW => ⟨⟨(), rfl, trivial, by show va_P _ _ _ _; rw [ht]; exact hP⟩, hS.F ht⟩) hS.2.2 dX2_put_20
set_option maxHeartbeats 4000000 in
set_option maxRecDepth 100000 in
theorem c_X2_errorPlace (l : Launch) (D : va_G) (T : Nat → ClassId) (ad : Nat → Nat) (I : Nat → Int32) (R : Nat → Nat → Int32) (len : Nat) (hlen : len ≤ 60) (hI3 : I 3 = nI len) : Met l yX2_errorPlace wsX2_errorPlace ({ frames := 3, cells := 0, slots := 0, locals := 61 }) (va_Pc [.ref (ad 7)] (CR D T ad I R)) (RqI (nI (epG (R 18) len 0))) 0 0 (fun _ => False) := by
  refine Met.ofW (cc := cX2_errorPlace) (maxL := 3) (ret := (some .int)) (by decide) rfl ?_
  intro p e s m args_ below meth c s₁ B hml hv
  obtain ⟨rfl, hP, hK, hN⟩ := hv
  have hx := B.exec
  have hb := B.bytes
  have hr := B.returns
  have hts := atoms_spec (ws := wsX2_errorPlace) B.pre
  have hown : s.vm.findClass RX2 = some m.cls := findClass_of_methodNamed B.named
  have hlocks := B.notSynchronized
  have hinX2 : ∀ w ∈ u_ws RX2 TX2 2, w ∈ wsX2_errorPlace := by decide +kernel
  have hS : va_S (fun _ => False) s.heap s.heap [] := va_S.rf
  have hl := lv_entry ([.ref (ad 7)]) (n := 3) (Nat.le_of_ble_eq_true rfl)
  rw [lg_entry_eq]
  generalize (lg_sl ([.ref (ad 7)]) ++ List.replicate (3 - (lg_sl ([.ref (ad 7)])).length) Slot.unset).toArray = ls at hl ⊢
  have hl : lv_has ls 3 [(0, .ref (ad 7))] := hl
  refine lv_iconst (v := 0) hx hb dX2_errorPlace_0 (by decide) ?_
  refine lv_istore_n (lv' := [(1, .int 0), (0, .ref (ad 7))]) hx hb dX2_errorPlace_1 rfl hl (by decide) rfl (fun ls hl => ?_)
  refine lv_iconst (v := 0) hx hb dX2_errorPlace_2 (by decide) ?_
  refine lv_istore_n (lv' := [(2, .int 0), (1, .int 0), (0, .ref (ad 7))]) hx hb dX2_errorPlace_3 rfl hl (by decide) rfl (fun ls hl => ?_)
  suffices ih_4 : ∀ (fu : Nat) (i : Nat) (pp : Nat) (H : Heap) (locs : List Loc) (ls : Array Slot), len - i < fu → (i ≤ len) → (plS (R 18) i = some pp) → (epG (R 18) len 0 = epG (R 18) (len - i) i) → va_P D vwCl (cw T ad I R) H →  va_S (fun _ => False) s.heap H locs → lv_has ls 3 [(0, .ref (ad 7)), (1, .int (nI pp)), (2, .int (nI i))] → W p l e (headSpec wsX2_errorPlace ({ frames := 3, cells := 0, slots := 0, locals := 61 })).room s m ([.ref (ad 7)] : List Value).toArray below meth c H locs 0 0 (MQ below (RqI (nI (epG (R 18) len 0))) ([.ref (ad 7)] : List Value).toArray s 0 0 (fun _ => False)) (F0 m 4 ls []) from
    ih_4 _ 0 0 _ _ _ (Nat.lt_succ_self _) (by omega) (rfl) (rfl) hP hS (lv_sub hl [2, 1, 0] rfl)
  intro fu
  induction fu with
  | zero => intro i pp H locs ls hfu; exact absurd hfu (Nat.not_lt_zero _)
  | succ fu ih_4 =>
    intro i pp H locs ls hfu hi hpl hF hP hS hl
    refine lv_iload_n hx hb dX2_errorPlace_4 rfl (lv_at hl 2 rfl) ?_
    refine lv_aload_n hx hb dX2_errorPlace_5 rfl (lv_at hl 0 rfl) ?_
    refine va_get (D := D) (ci := 2) (v := .int (I 3)) (C := RX2) (T := TX2) (N := 2) hx hb hts hinX2 hown hK hP 7 cw_7 rfl 1 (by decide) (hts (.fieldLink RX2 15 "SquareGears$WheelText" "length" "I") (by decide +kernel)) (fun _ h9 => h9) rfl dX2_errorPlace_6 ?_
    refine cx_top (show (I 3) = (nI len) from hI3) ?_
    refine lv_icmp_ge (tgt := 36) hx hb dX2_errorPlace_9 (by decide) (fun c_9 => ?_) (fun c_9 => ?_)
    · have c_9 : len ≤ i := (nI_leI (a := len) (b := i) (by omega) (by omega)).mp c_9
      have e9 : i = len := by omega
      refine lv_aload_n hx hb dX2_errorPlace_36 rfl (lv_at hl 0 rfl) ?_
      refine va_get (D := D) (ci := 2) (v := .int (I 3)) (C := RX2) (T := TX2) (N := 2) hx hb hts hinX2 hown hK hP 7 cw_7 rfl 1 (by decide) (hts (.fieldLink RX2 15 "SquareGears$WheelText" "length" "I") (by decide +kernel)) (fun _ h9 => h9) rfl dX2_errorPlace_37 ?_
      refine cx_top (show (I 3) = (nI len) from hI3) ?_
      exact W.iret (v := (nI len)) hx hb hr (fun t ht hW => ⟨⟨(nI len), (), rfl, (by rw [hF, e9, Nat.sub_self]; rfl), trivial⟩, hS.F ht⟩) hS.2.2 dX2_errorPlace_40
    · have c_9 : ¬ (len ≤ i) := fun h => c_9 ((nI_leI (a := len) (b := i) (by omega) (by omega)).mpr h)
      refine lv_iload_n hx hb dX2_errorPlace_12 rfl (lv_at hl 1 rfl) ?_
      refine lv_aload_n hx hb dX2_errorPlace_13 rfl (lv_at hl 0 rfl) ?_
      refine va_get (D := D) (ci := 2) (v := .ref (ad 8)) (C := RX2) (T := TX2) (N := 2) hx hb hts hinX2 hown hK hP 7 cw_7 rfl 0 (by decide) (hts (.fieldLink RX2 11 "SquareGears$WheelText" "signs" "[C") (by decide +kernel)) (fun _ h9 => h9) rfl dX2_errorPlace_14 ?_
      refine lv_iload_n hx hb dX2_errorPlace_17 rfl (lv_at hl 2 rfl) ?_
      refine cx_cald (k := i) hx hb hK hP 8 0 cw_8 rfl (by omega) (by decide) dX2_errorPlace_18 ?_
      refine cx_ri (va_runS (As := [.int (nI pp), .int ((R 18) i)]) (rest := []) ⟨hx, hb, hml, hown, hts⟩ (c_X2_placeBehind l  pp ((R 18) i) (pl_lt hpl)) (va_cwS 2 hts gX2_errorPlace_X2_placeBehind rfl rfl rfl (by decide +kernel) ⟨Nat.le_of_ble_eq_true rfl, Nat.le_of_ble_eq_true rfl⟩) ⟨pc_blind, (fun U hU hW => ⟨rfl, trivial⟩)⟩ rfl rfl hl.1 rfl (lv_room (Nat.le_of_ble_eq_true rfl)) dX2_errorPlace_19 ⟨Nat.le_of_ble_eq_true rfl, Nat.le_of_ble_eq_true rfl⟩) hS hP (fun H locs hP hS => ?_)
      refine cx_top (show (oI (pbO pp ((R 18) i))) = (oI (plS (R 18) (i + 1))) from by rw [pl_s hpl]) ?_
      rcases hpb : plS (R 18) (i + 1) with _ | q
      · refine lv_istore_n (lv' := [(1, .int (-1)), (0, .ref (ad 7)), (2, .int (nI i))]) hx hb dX2_errorPlace_22 rfl hl (by decide) rfl (fun ls hl => ?_)
        refine lv_iload_n hx hb dX2_errorPlace_23 rfl (lv_at hl 0 rfl) ?_
        refine lv_iconst (v := (-1)) hx hb dX2_errorPlace_24 (by decide) ?_
        refine lv_icmp_ne (tgt := 30) hx hb dX2_errorPlace_25 (by decide) (fun c_25 => absurd c_25 (by decide)) (fun c_25 => ?_)
        refine lv_iload_n hx hb dX2_errorPlace_28 rfl (lv_at hl 2 rfl) ?_
        exact W.iret (v := (nI i)) hx hb hr (fun t ht hW => ⟨⟨(nI i), (), rfl, (by rw [hF, ep_n (by omega) hpb]), trivial⟩, hS.F ht⟩) hS.2.2 dX2_errorPlace_29
      · refine lv_istore_n (lv' := [(1, .int (nI q)), (0, .ref (ad 7)), (2, .int (nI i))]) hx hb dX2_errorPlace_22 rfl hl (by decide) rfl (fun ls hl => ?_)
        refine lv_iload_n hx hb dX2_errorPlace_23 rfl (lv_at hl 0 rfl) ?_
        refine lv_iconst (v := (-1)) hx hb dX2_errorPlace_24 (by decide) ?_
        refine lv_icmp_ne (tgt := 30) hx hb dX2_errorPlace_25 (by decide) (fun c_25 => ?_) (fun c_25 => ?_)
        · refine lv_iinc (k := 2) (v := (nI (i + 1))) (lv' := [(2, .int (nI (i + 1))), (1, .int (nI q)), (0, .ref (ad 7))]) hx hb dX2_errorPlace_30 hl rfl (nI_add i 1) (by decide) rfl (fun ls hl => ?_)
          refine lv_goto (tgt := 4) hx hb dX2_errorPlace_33 (by decide) ?_
          exact ih_4 (i + 1) q _ _ _ (by omega) (by omega) (hpb) (hF.trans (ep_s (by omega) hpb)) hP hS (lv_sub hl [2, 1, 0] rfl)
        · exact absurd c_25 (nI_ne_m1 (by have := pl_lt hpb; omega))
set_option maxHeartbeats 4000000 in
set_option maxRecDepth 100000 in
theorem c_X2_tellsWheels (l : Launch) (D : va_G) (T : Nat → ClassId) (ad : Nat → Nat) (I : Nat → Int32) (R : Nat → Nat → Int32) (len : Nat) (hlen : len ≤ 60) (hI3 : I 3 = nI len) : Met l yX2_tellsWheels wsX2_tellsWheels ({ frames := 3, cells := 0, slots := 0, locals := 61 }) (va_Pc [.ref (ad 7)] (CR D T ad I R)) (RqI (twF (plS (R 18) len))) 0 0 (fun _ => False) := by
  refine Met.ofW (cc := cX2_tellsWheels) (maxL := 3) (ret := (some .boolean)) (by decide) rfl ?_
  intro p e s m args_ below meth c s₁ B hml hv
  obtain ⟨rfl, hP, hK, hN⟩ := hv
  have hx := B.exec
  have hb := B.bytes
  have hr := B.returns
  have hts := atoms_spec (ws := wsX2_tellsWheels) B.pre
  have hown : s.vm.findClass RX2 = some m.cls := findClass_of_methodNamed B.named
  have hlocks := B.notSynchronized
  have hinX2 : ∀ w ∈ u_ws RX2 TX2 2, w ∈ wsX2_tellsWheels := by decide +kernel
  have hS : va_S (fun _ => False) s.heap s.heap [] := va_S.rf
  have hl := lv_entry ([.ref (ad 7)]) (n := 3) (Nat.le_of_ble_eq_true rfl)
  rw [lg_entry_eq]
  generalize (lg_sl ([.ref (ad 7)]) ++ List.replicate (3 - (lg_sl ([.ref (ad 7)])).length) Slot.unset).toArray = ls at hl ⊢
  have hl : lv_has ls 3 [(0, .ref (ad 7))] := hl
  refine lv_iconst (v := 0) hx hb dX2_tellsWheels_0 (by decide) ?_
  refine lv_istore_n (lv' := [(1, .int 0), (0, .ref (ad 7))]) hx hb dX2_tellsWheels_1 rfl hl (by decide) rfl (fun ls hl => ?_)
  refine lv_iconst (v := 0) hx hb dX2_tellsWheels_2 (by decide) ?_
  refine lv_istore_n (lv' := [(2, .int 0), (1, .int 0), (0, .ref (ad 7))]) hx hb dX2_tellsWheels_3 rfl hl (by decide) rfl (fun ls hl => ?_)
  suffices ih_4 : ∀ (fu : Nat) (i : Nat) (o : Option Nat) (H : Heap) (locs : List Loc) (ls : Array Slot), len - i < fu → (i ≤ len) → (o = plS (R 18) i) → va_P D vwCl (cw T ad I R) H →  va_S (fun _ => False) s.heap H locs → lv_has ls 3 [(0, .ref (ad 7)), (1, .int (oI o)), (2, .int (nI i))] → W p l e (headSpec wsX2_tellsWheels ({ frames := 3, cells := 0, slots := 0, locals := 61 })).room s m ([.ref (ad 7)] : List Value).toArray below meth c H locs 0 0 (MQ below (RqI (twF (plS (R 18) len))) ([.ref (ad 7)] : List Value).toArray s 0 0 (fun _ => False)) (F0 m 4 ls []) from
    ih_4 _ 0 (some 0) _ _ _ (Nat.lt_succ_self _) (by omega) (rfl) hP hS (lv_sub hl [2, 1, 0] rfl)
  intro fu
  induction fu with
  | zero => intro i o H locs ls hfu; exact absurd hfu (Nat.not_lt_zero _)
  | succ fu ih_4 =>
    intro i o H locs ls hfu hi ho hP hS hl
    refine lv_iload_n hx hb dX2_tellsWheels_4 rfl (lv_at hl 2 rfl) ?_
    refine lv_aload_n hx hb dX2_tellsWheels_5 rfl (lv_at hl 0 rfl) ?_
    refine va_get (D := D) (ci := 2) (v := .int (I 3)) (C := RX2) (T := TX2) (N := 2) hx hb hts hinX2 hown hK hP 7 cw_7 rfl 1 (by decide) (hts (.fieldLink RX2 15 "SquareGears$WheelText" "length" "I") (by decide +kernel)) (fun _ h9 => h9) rfl dX2_tellsWheels_6 ?_
    refine cx_top (show (I 3) = (nI len) from hI3) ?_
    refine lv_icmp_ge (tgt := 34) hx hb dX2_tellsWheels_9 (by decide) (fun c_9 => ?_) (fun c_9 => ?_)
    · have c_9 : len ≤ i := (nI_leI (a := len) (b := i) (by omega) (by omega)).mp c_9
      have e9 : i = len := by omega
      have ho : o = plS (R 18) len := by rw [← e9]; exact ho
      rcases o with _ | pp
      · refine lv_iload_n hx hb dX2_tellsWheels_34 rfl (lv_at hl 1 rfl) ?_
        refine lv_iconst (v := 4) hx hb dX2_tellsWheels_35 (by decide) ?_
        refine lv_icmp_eq (tgt := 44) hx hb dX2_tellsWheels_36 (by decide) (fun c_36 => absurd c_36 (by decide)) (fun c_36 => ?_)
        refine lv_iload_n hx hb dX2_tellsWheels_39 rfl (lv_at hl 1 rfl) ?_
        refine lv_iconst (v := 5) hx hb dX2_tellsWheels_40 (by decide) ?_
        refine lv_icmp_ne (tgt := 48) hx hb dX2_tellsWheels_41 (by decide) (fun c_41 => ?_) (fun c_41 => absurd c_41 (by decide))
        refine lv_iconst (v := 0) hx hb dX2_tellsWheels_48 (by decide) ?_
        exact W.zret (v := 0) hx hb hr (rfl) (fun t ht hW => ⟨⟨0, (), rfl, (by show _ = twF _; rw [← ho]; first | exact tw_n | exact tw_4 c_36 | exact tw_5 c_41 | exact tw_0 c_36 c_41), trivial⟩, hS.F ht⟩) hS.2.2 dX2_tellsWheels_49
      · have hp6 : pp < 6 := pl_lt ho.symm
        refine lv_iload_n hx hb dX2_tellsWheels_34 rfl (lv_at hl 1 rfl) ?_
        refine lv_iconst (v := 4) hx hb dX2_tellsWheels_35 (by decide) ?_
        refine lv_icmp_eq (tgt := 44) hx hb dX2_tellsWheels_36 (by decide) (fun c_36 => ?_) (fun c_36 => ?_)
        · have c_36 : pp = 4 := (nI_eq (a := pp) (b := 4) (by omega) (by omega)).mp c_36
          refine lv_iconst (v := 1) hx hb dX2_tellsWheels_44 (by decide) ?_
          refine lv_goto (tgt := 49) hx hb dX2_tellsWheels_45 (by decide) ?_
          exact W.zret (v := 1) hx hb hr (rfl) (fun t ht hW => ⟨⟨1, (), rfl, (by show _ = twF _; rw [← ho]; first | exact tw_n | exact tw_4 c_36 | exact tw_5 c_41 | exact tw_0 c_36 c_41), trivial⟩, hS.F ht⟩) hS.2.2 dX2_tellsWheels_49
        · have c_36 : ¬ (pp = 4) := fun h => c_36 ((nI_eq (a := pp) (b := 4) (by omega) (by omega)).mpr h)
          refine lv_iload_n hx hb dX2_tellsWheels_39 rfl (lv_at hl 1 rfl) ?_
          refine lv_iconst (v := 5) hx hb dX2_tellsWheels_40 (by decide) ?_
          refine lv_icmp_ne (tgt := 48) hx hb dX2_tellsWheels_41 (by decide) (fun c_41 => ?_) (fun c_41 => ?_)
          · have c_41 : ¬ (pp = 5) := fun h => c_41 ((nI_eq (a := pp) (b := 5) (by omega) (by omega)).mpr h)
            refine lv_iconst (v := 0) hx hb dX2_tellsWheels_48 (by decide) ?_
            exact W.zret (v := 0) hx hb hr (rfl) (fun t ht hW => ⟨⟨0, (), rfl, (by show _ = twF _; rw [← ho]; first | exact tw_n | exact tw_4 c_36 | exact tw_5 c_41 | exact tw_0 c_36 c_41), trivial⟩, hS.F ht⟩) hS.2.2 dX2_tellsWheels_49
          · have c_41 : pp = 5 := (nI_eq (a := pp) (b := 5) (by omega) (by omega)).mp c_41
            refine lv_iconst (v := 1) hx hb dX2_tellsWheels_44 (by decide) ?_
            refine lv_goto (tgt := 49) hx hb dX2_tellsWheels_45 (by decide) ?_
            exact W.zret (v := 1) hx hb hr (rfl) (fun t ht hW => ⟨⟨1, (), rfl, (by show _ = twF _; rw [← ho]; first | exact tw_n | exact tw_4 c_36 | exact tw_5 c_41 | exact tw_0 c_36 c_41), trivial⟩, hS.F ht⟩) hS.2.2 dX2_tellsWheels_49
    · have c_9 : ¬ (len ≤ i) := fun h => c_9 ((nI_leI (a := len) (b := i) (by omega) (by omega)).mpr h)
      rcases o with _ | pp
      · refine lv_iload_n hx hb dX2_tellsWheels_12 rfl (lv_at hl 1 rfl) ?_
        refine lv_iconst (v := (-1)) hx hb dX2_tellsWheels_13 (by decide) ?_
        refine lv_icmp_eq (tgt := 34) hx hb dX2_tellsWheels_14 (by decide) (fun c_14 => ?_) (fun c_14 => absurd c_14 (by decide))
        have ho : none = plS (R 18) len := by have h := pl_n ho.symm (len - i); rw [show i + (len - i) = len by omega] at h; exact h.symm
        refine lv_iload_n hx hb dX2_tellsWheels_34 rfl (lv_at hl 1 rfl) ?_
        refine lv_iconst (v := 4) hx hb dX2_tellsWheels_35 (by decide) ?_
        refine lv_icmp_eq (tgt := 44) hx hb dX2_tellsWheels_36 (by decide) (fun c_36 => absurd c_36 (by decide)) (fun c_36 => ?_)
        refine lv_iload_n hx hb dX2_tellsWheels_39 rfl (lv_at hl 1 rfl) ?_
        refine lv_iconst (v := 5) hx hb dX2_tellsWheels_40 (by decide) ?_
        refine lv_icmp_ne (tgt := 48) hx hb dX2_tellsWheels_41 (by decide) (fun c_41 => ?_) (fun c_41 => absurd c_41 (by decide))
        refine lv_iconst (v := 0) hx hb dX2_tellsWheels_48 (by decide) ?_
        exact W.zret (v := 0) hx hb hr (rfl) (fun t ht hW => ⟨⟨0, (), rfl, (by show _ = twF _; rw [← ho]; first | exact tw_n | exact tw_4 c_36 | exact tw_5 c_41 | exact tw_0 c_36 c_41), trivial⟩, hS.F ht⟩) hS.2.2 dX2_tellsWheels_49
      · refine lv_iload_n hx hb dX2_tellsWheels_12 rfl (lv_at hl 1 rfl) ?_
        refine lv_iconst (v := (-1)) hx hb dX2_tellsWheels_13 (by decide) ?_
        refine lv_icmp_eq (tgt := 34) hx hb dX2_tellsWheels_14 (by decide) (fun c_14 => ?_) (fun c_14 => ?_)
        · exact absurd c_14 (nI_ne_m1 (by have := pl_lt ho.symm; omega))
        · refine lv_iload_n hx hb dX2_tellsWheels_17 rfl (lv_at hl 1 rfl) ?_
          refine lv_aload_n hx hb dX2_tellsWheels_18 rfl (lv_at hl 0 rfl) ?_
          refine va_get (D := D) (ci := 2) (v := .ref (ad 8)) (C := RX2) (T := TX2) (N := 2) hx hb hts hinX2 hown hK hP 7 cw_7 rfl 0 (by decide) (hts (.fieldLink RX2 11 "SquareGears$WheelText" "signs" "[C") (by decide +kernel)) (fun _ h9 => h9) rfl dX2_tellsWheels_19 ?_
          refine lv_iload_n hx hb dX2_tellsWheels_22 rfl (lv_at hl 2 rfl) ?_
          refine cx_cald (k := i) hx hb hK hP 8 0 cw_8 rfl (by omega) (by decide) dX2_tellsWheels_23 ?_
          refine cx_ri (va_runS (As := [.int (nI pp), .int ((R 18) i)]) (rest := []) ⟨hx, hb, hml, hown, hts⟩ (c_X2_placeBehind l  pp ((R 18) i) (pl_lt ho.symm)) (va_cwS 2 hts gX2_tellsWheels_X2_placeBehind rfl rfl rfl (by decide +kernel) ⟨Nat.le_of_ble_eq_true rfl, Nat.le_of_ble_eq_true rfl⟩) ⟨pc_blind, (fun U hU hW => ⟨rfl, trivial⟩)⟩ rfl rfl hl.1 rfl (lv_room (Nat.le_of_ble_eq_true rfl)) dX2_tellsWheels_24 ⟨Nat.le_of_ble_eq_true rfl, Nat.le_of_ble_eq_true rfl⟩) hS hP (fun H locs hP hS => ?_)
          refine lv_istore_n (lv' := [(1, .int (oI (pbO pp ((R 18) i)))), (0, .ref (ad 7)), (2, .int (nI i))]) hx hb dX2_tellsWheels_27 rfl hl (by decide) rfl (fun ls hl => ?_)
          refine lv_iinc (k := 2) (v := (nI (i + 1))) (lv' := [(2, .int (nI (i + 1))), (1, .int (oI (pbO pp ((R 18) i)))), (0, .ref (ad 7))]) hx hb dX2_tellsWheels_28 hl rfl (nI_add i 1) (by decide) rfl (fun ls hl => ?_)
          refine lv_goto (tgt := 4) hx hb dX2_tellsWheels_31 (by decide) ?_
          exact ih_4 (i + 1) (pbO pp ((R 18) i)) _ _ _ (by omega) (by omega) ((pl_s ho.symm).symm) hP hS (lv_sub hl [2, 1, 0] rfl)

set_option maxHeartbeats 4000000 in
set_option maxRecDepth 100000 in
theorem c_X4_findError (l : Launch) (D : va_G) (T : Nat → ClassId) (ad : Nat → Nat) (I : Nat → Int32) (R : Nat → Nat → Int32) (sz : Nat) (len : Nat) (hAD : AD 7 ad) (hlen : len ≤ 60) (hI2 : I 2 = nI len) : Met l yX4_findError wsX4_findError ({ frames := 3, cells := 0, slots := 0, locals := 65 }) (va_Pc [.ref (ad 0)] (MB D T ad I R sz)) (va_Qi (fun r (o : Int32 × Int32 × Int32) => r = (ferS (R 4) len 61 0) ∧ True) (fun (o : Int32 × Int32 × Int32) t => va_P D vwCl (mw T ad (upd (upd (upd I 3 o.1) 5 o.2.1) 4 o.2.2) R) t.heap) (cA 7 ad sz)) 0 0 (cA 7 ad sz) := by
  refine Met.ofW (cc := cX4_findError) (maxL := 2) (ret := (some .int)) (by decide) rfl ?_
  intro p e s m args_ below meth c s₁ B hml hv
  obtain ⟨rfl, hsz, hP, hK⟩ := hv
  have hx := B.exec
  have hb := B.bytes
  have hr := B.returns
  have hts := atoms_spec (ws := wsX4_findError) B.pre
  have hown : s.vm.findClass RX4 = some m.cls := findClass_of_methodNamed B.named
  have hlocks := B.notSynchronized
  have hinX4 : ∀ w ∈ u_ws RX4 TX4 12, w ∈ wsX4_findError := by decide +kernel
  subst hsz
  have hS : va_S (cA 7 ad s.heap.size) s.heap s.heap [] := va_S.rf
  have hD : ∀ I R, va_D (cA 7 ad s.heap.size) (mw T ad I R) := fun I R => mw_D hAD (fun k hk => cA_in hk)
  have hl := lv_entry ([.ref (ad 0)]) (n := 2) (Nat.le_of_ble_eq_true rfl)
  rw [lg_entry_eq]
  generalize (lg_sl ([.ref (ad 0)]) ++ List.replicate (2 - (lg_sl ([.ref (ad 0)])).length) Slot.unset).toArray = ls at hl ⊢
  have hl : lv_has ls 2 [(0, .ref (ad 0))] := hl
  refine lv_iconst (v := 0) hx hb dX4_findError_0 (by decide) ?_
  refine lv_istore_n (lv' := [(1, .int (nI 0)), (0, .ref (ad 0))]) hx hb dX4_findError_1 rfl hl (by decide) rfl (fun ls hl => ?_)
  suffices ih_2 : ∀ (fu : Nat) (n : Nat) (i : Nat) (w : Int32) (b : Int32) (xa : Int32) (H : Heap) (locs : List Loc) (ls : Array Slot), len + 1 - i < fu → (i ≤ len) → (len < n + i) → (ferS (R 4) len 61 0 = ferS (R 4) len n i) → va_P D vwCl (mw T ad (upd (upd (upd I 3 w) 5 b) 4 xa) R) H →  va_S (cA 7 ad s.heap.size) s.heap H locs → lv_has ls 2 [(0, .ref (ad 0)), (1, .int (nI i))] → W p l e (headSpec wsX4_findError ({ frames := 3, cells := 0, slots := 0, locals := 65 })).room s m ([.ref (ad 0)] : List Value).toArray below meth c H locs 0 0 (MQ below (va_Qi (fun r (o : Int32 × Int32 × Int32) => r = (ferS (R 4) len 61 0) ∧ True) (fun (o : Int32 × Int32 × Int32) t => va_P D vwCl (mw T ad (upd (upd (upd I 3 o.1) 5 o.2.1) 4 o.2.2) R) t.heap) (cA 7 ad s.heap.size)) ([.ref (ad 0)] : List Value).toArray s 0 0 (cA 7 ad s.heap.size)) (F0 m 2 ls []) from
    ih_2 _ 61 0 (I 3) (I 5) (I 4) _ _ _ (Nat.lt_succ_self _) (by omega) (by omega) (rfl) (m_345s hP) hS (lv_sub hl [1, 0] rfl)
  intro fu
  induction fu with
  | zero => intro n i w b xa H locs ls hfu; exact absurd hfu (Nat.not_lt_zero _)
  | succ fu ih_2 =>
    intro n i w b xa H locs ls hfu hi hn hF hP hS hl
    refine lv_aload_n hx hb dX4_findError_2 rfl (lv_at hl 0 rfl) ?_
    refine lv_iload_n hx hb dX4_findError_3 rfl (lv_at hl 1 rfl) ?_
    refine cx_wi (va_runV (As := [.int (nI i)]) (rest := []) ⟨hx, hb, hml, hown, hts⟩ (c_X4_readPart l D T ad (upd (upd (upd I 3 w) 5 b) 4 xa) R _ len i (hAD) (hlen) (hI2) (by omega)) (cwV 1 hts gX4_findError_X4_readPart rfl rfl rfl (by decide +kernel) ⟨Nat.le_of_ble_eq_true rfl, Nat.le_of_ble_eq_true rfl⟩) ⟨MB.blind, va_recv hK hP (ci := 4) (q0 := 0) rfl mw_0, (MB.pre hP hK rfl)⟩ rfl rfl hl.1 rfl (lv_room (Nat.le_of_ble_eq_true rfl)) dX4_findError_4 ⟨Nat.le_of_ble_eq_true rfl, Nat.le_of_ble_eq_true rfl⟩) hS (cA_le hS.1) (cA_le hS.1) (fun u_4 H locs hu_4 hP hkk hS => ?_)
    have hP := m_345 hP
    refine cx_top (show ((rpF (atF ((R 4)) len) (xa) i).1) = (mrp1 (atF (R 4) len) i) from mrp1_eq) ?_
    rcases rp_cs (t := R 4) (len := len) (i := i) (by omega) with hq | ⟨j, hq, hj1, hj2⟩
    · refine lv_istore_n (lv' := [(1, .int (mrp1 (atF (R 4) len) i)), (0, .ref (ad 0))]) hx hb dX4_findError_7 rfl hl (by decide) rfl (fun ls hl => ?_)
      refine lv_iload_n hx hb dX4_findError_8 rfl (lv_at hl 0 rfl) ?_
      refine lv_if_ge (tgt := 16) hx hb dX4_findError_9 (by decide) (fun c_9 => ?_) (fun c_9 => ?_)
      · exact absurd c_9 (Int32.not_le.mpr hq)
      · refine lv_iconst (v := (-1)) hx hb dX4_findError_12 (by decide) ?_
        refine lv_iload_n hx hb dX4_findError_13 rfl (lv_at hl 0 rfl) ?_
        refine lv_isub hx hb dX4_findError_14 ?_
        exact W.iret (v := ((-1) - (mrp1 (atF (R 4) len) i))) hx hb hr (fun t ht hW => ⟨⟨((-1) - (mrp1 (atF (R 4) len) i)), ((atF ((R 4)) len i - 97), (rpL (atF ((R 4)) len) i), ((rpF (atF ((R 4)) len) (xa) i).2)), rfl, ⟨by rw [hF]; exact (fer_a (by omega) hq).symm, trivial⟩, by show va_P _ _ _ _; rw [ht]; exact hP⟩, hS.F ht⟩) hS.2.2 dX4_findError_15
    · rw [hq]
      refine lv_istore_n (lv' := [(1, .int (nI j)), (0, .ref (ad 0))]) hx hb dX4_findError_7 rfl hl (by decide) rfl (fun ls hl => ?_)
      refine lv_iload_n hx hb dX4_findError_8 rfl (lv_at hl 0 rfl) ?_
      refine lv_if_ge (tgt := 16) hx hb dX4_findError_9 (by decide) (fun c_9 => ?_) (fun c_9 => ?_)
      · have c_9 : 0 ≤ j := (nI_leI (a := 0) (b := j) (by omega) (by omega)).mp c_9
        refine lv_iload_n hx hb dX4_findError_16 rfl (lv_at hl 0 rfl) ?_
        refine lv_aload_n hx hb dX4_findError_17 rfl (lv_at hl 1 rfl) ?_
        refine va_get (D := D) (ci := 4) (v := .int (I 2)) (C := RX4) (T := TX4) (N := 12) hx hb hts hinX4 hown hK hP 0 mw_0 rfl 7 (by decide) (hts (.fieldLink RX4 74 "SquareGearsModel" "length" "I") (by decide +kernel)) (fun _ h9 => h9) rfl dX4_findError_18 ?_
        refine cx_top (show (I 2) = (nI len) from hI2) ?_
        refine lv_icmp_ne (tgt := 26) hx hb dX4_findError_21 (by decide) (fun c_21 => ?_) (fun c_21 => ?_)
        · have c_21 : ¬ (j = len) := fun h => c_21 ((nI_eq (a := j) (b := len) (by omega) (by omega)).mpr h)
          refine lv_aload_n hx hb dX4_findError_26 rfl (lv_at hl 1 rfl) ?_
          refine va_get (D := D) (ci := 4) (v := .ref (ad 5)) (C := RX4) (T := TX4) (N := 12) hx hb hts hinX4 hown hK hP 0 mw_0 rfl 6 (by decide) (hts (.fieldLink RX4 23 "SquareGearsModel" "text" "[I") (by decide +kernel)) (fun _ h9 => h9) rfl dX4_findError_27 ?_
          refine lv_iload_n hx hb dX4_findError_30 rfl (lv_at hl 0 rfl) ?_
          refine cx_iald (k := j) hx hb hK hP 5 1 mw_5 rfl (by omega) (by decide) dX4_findError_31 ?_
          refine lv_bipush (v := 59) hx hb dX4_findError_32 (by decide) ?_
          refine lv_icmp_eq (tgt := 39) hx hb dX4_findError_34 (by decide) (fun c_34 => ?_) (fun c_34 => ?_)
          · refine lv_iinc (k := 0) (v := (nI (j + 1))) (lv' := [(1, .int (nI (j + 1))), (0, .ref (ad 0))]) hx hb dX4_findError_39 hl rfl (nI_add j 1) (by decide) rfl (fun ls hl => ?_)
            refine lv_goto (tgt := 2) hx hb dX4_findError_42 (by decide) ?_
            exact ih_2 (n - 1) (j + 1) (atF ((R 4)) len i - 97) (rpL (atF ((R 4)) len) i) ((rpF (atF ((R 4)) len) (xa) i).2) _ _ _ (by omega) (by omega) (by omega) (hF.trans (fer_d (by omega) hq (by omega) c_21 c_34)) hP hS (lv_sub hl [1, 0] rfl)
          · refine lv_iload_n hx hb dX4_findError_37 rfl (lv_at hl 0 rfl) ?_
            exact W.iret (v := (nI j)) hx hb hr (fun t ht hW => ⟨⟨(nI j), ((atF ((R 4)) len i - 97), (rpL (atF ((R 4)) len) i), ((rpF (atF ((R 4)) len) (xa) i).2)), rfl, ⟨by rw [hF]; exact (fer_c (by omega) hq (by omega) c_21 c_34).symm, trivial⟩, by show va_P _ _ _ _; rw [ht]; exact hP⟩, hS.F ht⟩) hS.2.2 dX4_findError_38
        · have c_21 : j = len := (nI_eq (a := j) (b := len) (by omega) (by omega)).mp c_21
          refine lv_iconst (v := (-1)) hx hb dX4_findError_24 (by decide) ?_
          exact W.iret (v := (-1)) hx hb hr (fun t ht hW => ⟨⟨(-1), ((atF ((R 4)) len i - 97), (rpL (atF ((R 4)) len) i), ((rpF (atF ((R 4)) len) (xa) i).2)), rfl, ⟨by rw [hF]; exact (fer_b (by omega) hq (by omega) c_21).symm, trivial⟩, by show va_P _ _ _ _; rw [ht]; exact hP⟩, hS.F ht⟩) hS.2.2 dX4_findError_25
      · have c_9 : ¬ (0 ≤ j) := fun h => c_9 ((nI_leI (a := 0) (b := j) (by omega) (by omega)).mpr h)
        exact absurd (Nat.zero_le _) c_9
set_option maxHeartbeats 4000000 in
set_option maxRecDepth 100000 in
theorem c_X4_firstError (l : Launch) (D : va_G) (T : Nat → ClassId) (ad : Nat → Nat) (I : Nat → Int32) (R : Nat → Nat → Int32) (sz : Nat) (len : Nat) (hAD : AD 7 ad) (hlen : len ≤ 60) (hI2 : I 2 = nI len) : Met l yX4_firstError wsX4_firstError ({ frames := 4, cells := 0, slots := 0, locals := 86 }) (va_Pc [.ref (ad 0)] (MB D T ad I R sz)) (va_Qi (fun r (o : Int32 × Int32 × Int32) => r = (if ferS (R 4) len 61 0 < 0 then nI len else ferS (R 4) len 61 0) ∧ True) (fun (o : Int32 × Int32 × Int32) t => va_P D vwCl (mw T ad (upd (upd (upd (upd I 0 0) 3 o.1) 5 o.2.1) 4 o.2.2) R) t.heap) (cA 7 ad sz)) 0 0 (cA 7 ad sz) := by
  refine Met.ofW (cc := cX4_firstError) (maxL := 2) (ret := (some .int)) (by decide) rfl ?_
  intro p e s m args_ below meth c s₁ B hml hv
  obtain ⟨rfl, hsz, hP, hK⟩ := hv
  have hx := B.exec
  have hb := B.bytes
  have hr := B.returns
  have hts := atoms_spec (ws := wsX4_firstError) B.pre
  have hown : s.vm.findClass RX4 = some m.cls := findClass_of_methodNamed B.named
  have hlocks := B.notSynchronized
  have hinX4 : ∀ w ∈ u_ws RX4 TX4 12, w ∈ wsX4_firstError := by decide +kernel
  subst hsz
  have hS : va_S (cA 7 ad s.heap.size) s.heap s.heap [] := va_S.rf
  have hD : ∀ I R, va_D (cA 7 ad s.heap.size) (mw T ad I R) := fun I R => mw_D hAD (fun k hk => cA_in hk)
  have hl := lv_entry ([.ref (ad 0)]) (n := 2) (Nat.le_of_ble_eq_true rfl)
  rw [lg_entry_eq]
  generalize (lg_sl ([.ref (ad 0)]) ++ List.replicate (2 - (lg_sl ([.ref (ad 0)])).length) Slot.unset).toArray = ls at hl ⊢
  have hl : lv_has ls 2 [(0, .ref (ad 0))] := hl
  refine lv_aload_n hx hb dX4_firstError_0 rfl (lv_at hl 0 rfl) ?_
  refine lv_iconst (v := 0) hx hb dX4_firstError_1 (by decide) ?_
  refine cx_put (D := D) (ci := 4) (v := 0) (ty := .int) (C := RX4) (T := TX4) (N := 12) hx hb hts hinX4 tyX4 tyX4_ok nmX4 hown hK hP (hD _ _) hS 0 mw_0 rfl 0 (by decide) (hts (.fieldLink RX4 29 "SquareGearsModel" "thrown" "I") (by decide +kernel)) (fun _ h9 => h9) rfl (by decide +kernel) rfl rfl (Nat.le_of_ble_eq_true rfl) mw_I0 dX4_firstError_2 (fun H locs hP hS => ?_)
  refine lv_aload_n hx hb dX4_firstError_5 rfl (lv_at hl 0 rfl) ?_
  refine cx_wi (va_runV (As := []) (rest := []) ⟨hx, hb, hml, hown, hts⟩ (c_X4_findError l D T ad (upd I 0 0) R _ len (hAD) (hlen) (hI2)) (cwV 0 hts gX4_firstError_X4_findError rfl rfl rfl (by decide +kernel) ⟨Nat.le_of_ble_eq_true rfl, Nat.le_of_ble_eq_true rfl⟩) ⟨MB.blind, va_recv hK hP (ci := 4) (q0 := 0) rfl mw_0, (MB.pre hP hK rfl)⟩ rfl rfl hl.1 rfl (lv_room (Nat.le_of_ble_eq_true rfl)) dX4_firstError_6 ⟨Nat.le_of_ble_eq_true rfl, Nat.le_of_ble_eq_true rfl⟩) hS (cA_le hS.1) (cA_le hS.1) (fun u_6 H locs hu_6 hP hkk hS => ?_)
  refine lv_istore_n (lv' := [(1, .int (ferS ((R 4)) len 61 0)), (0, .ref (ad 0))]) hx hb dX4_firstError_9 rfl hl (by decide) rfl (fun ls hl => ?_)
  refine lv_iload_n hx hb dX4_firstError_10 rfl (lv_at hl 0 rfl) ?_
  refine lv_if_ge (tgt := 21) hx hb dX4_firstError_11 (by decide) (fun c_11 => ?_) (fun c_11 => ?_)
  · refine lv_iload_n hx hb dX4_firstError_21 rfl (lv_at hl 0 rfl) ?_
    exact W.iret (v := (ferS ((R 4)) len 61 0)) hx hb hr (fun t ht hW => ⟨⟨(ferS ((R 4)) len 61 0), u_6, rfl, ⟨by first | exact (if_pos (Int32.not_le.mp c_11)).symm | exact (if_neg (Int32.not_lt.mpr c_11)).symm, trivial⟩, by show va_P _ _ _ _; rw [ht]; exact hP⟩, hS.F ht⟩) hS.2.2 dX4_firstError_22
  · refine lv_aload_n hx hb dX4_firstError_14 rfl (lv_at hl 1 rfl) ?_
    refine va_get (D := D) (ci := 4) (v := .int (I 2)) (C := RX4) (T := TX4) (N := 12) hx hb hts hinX4 hown hK hP 0 mw_0 rfl 7 (by decide) (hts (.fieldLink RX4 74 "SquareGearsModel" "length" "I") (by decide +kernel)) (fun _ h9 => h9) rfl dX4_firstError_15 ?_
    refine cx_top (show (I 2) = (nI len) from hI2) ?_
    refine lv_goto (tgt := 22) hx hb dX4_firstError_18 (by decide) ?_
    exact W.iret (v := (nI len)) hx hb hr (fun t ht hW => ⟨⟨(nI len), u_6, rfl, ⟨by first | exact (if_pos (Int32.not_le.mp c_11)).symm | exact (if_neg (Int32.not_lt.mpr c_11)).symm, trivial⟩, by show va_P _ _ _ _; rw [ht]; exact hP⟩, hS.F ht⟩) hS.2.2 dX4_firstError_22

set_option maxHeartbeats 4000000 in
set_option maxRecDepth 100000 in
theorem c_X4_copy (l : Launch) (D : va_G) (T : Nat → ClassId) (ad : Nat → Nat) (I : Nat → Int32) (R : Nat → Nat → Int32) (sz : Nat) (sv : Nat) (hAD : AD 7 ad) (hsv6 : sv ≤ 6) (hsv : I 1 = nI sv) : Met l yX4_copy wsX4_copy ({ frames := 3, cells := 0, slots := 0, locals := 66 }) (va_Pc [.ref (ad 0)] (MB D T ad I R sz)) (va_Qi (fun r (f : Nat → Int32) => r = (cgS (qz (R 0)) (cpT (R 0)) 8) ∧ recP (R 1) (R 0) sv f) (fun (f : Nat → Int32) t => va_P D vwCl (mw T ad (upd (upd I 0 0) 1 (nI (min (sv + 1) 6))) (updR (updR R 1 f) 0 (cpM (R 0)))) t.heap) (cA 7 ad sz)) 0 0 (cA 7 ad sz) := by
  refine Met.ofW (cc := cX4_copy) (maxL := 3) (ret := (some .int)) (by decide) rfl ?_
  intro p e s m args_ below meth c s₁ B hml hv
  obtain ⟨rfl, hsz, hP, hK⟩ := hv
  have hx := B.exec
  have hb := B.bytes
  have hr := B.returns
  have hts := atoms_spec (ws := wsX4_copy) B.pre
  have hown : s.vm.findClass RX4 = some m.cls := findClass_of_methodNamed B.named
  have hlocks := B.notSynchronized
  have hinX4 : ∀ w ∈ u_ws RX4 TX4 12, w ∈ wsX4_copy := by decide +kernel
  subst hsz
  have hS : va_S (cA 7 ad s.heap.size) s.heap s.heap [] := va_S.rf
  have hD : ∀ I R, va_D (cA 7 ad s.heap.size) (mw T ad I R) := fun I R => mw_D hAD (fun k hk => cA_in hk)
  have hl := lv_entry ([.ref (ad 0)]) (n := 3) (Nat.le_of_ble_eq_true rfl)
  rw [lg_entry_eq]
  generalize (lg_sl ([.ref (ad 0)]) ++ List.replicate (3 - (lg_sl ([.ref (ad 0)])).length) Slot.unset).toArray = ls at hl ⊢
  have hl : lv_has ls 3 [(0, .ref (ad 0))] := hl
  refine lv_aload_n hx hb dX4_copy_0 rfl (lv_at hl 0 rfl) ?_
  refine lv_iconst (v := 0) hx hb dX4_copy_1 (by decide) ?_
  refine cx_put (D := D) (ci := 4) (v := 0) (ty := .int) (C := RX4) (T := TX4) (N := 12) hx hb hts hinX4 tyX4 tyX4_ok nmX4 hown hK hP (hD _ _) hS 0 mw_0 rfl 0 (by decide) (hts (.fieldLink RX4 29 "SquareGearsModel" "thrown" "I") (by decide +kernel)) (fun _ h9 => h9) rfl (by decide +kernel) rfl rfl (Nat.le_of_ble_eq_true rfl) mw_I0 dX4_copy_2 (fun H locs hP hS => ?_)
  refine lv_aload_n hx hb dX4_copy_5 rfl (lv_at hl 0 rfl) ?_
  refine cx_wv (va_runV (As := []) (rest := []) ⟨hx, hb, hml, hown, hts⟩ (c_X4_record l D T ad (upd I 0 0) R _ sv (hAD) (hsv6) (hsv)) (cwV 0 hts gX4_copy_X4_record rfl rfl rfl (by decide +kernel) ⟨Nat.le_of_ble_eq_true rfl, Nat.le_of_ble_eq_true rfl⟩) ⟨MB.blind, va_recv hK hP (ci := 4) (q0 := 0) rfl mw_0, (MB.pre hP hK rfl)⟩ rfl rfl hl.1 rfl (lv_room (Nat.le_of_ble_eq_true rfl)) dX4_copy_6 ⟨Nat.le_of_ble_eq_true rfl, Nat.le_of_ble_eq_true rfl⟩) hS (cA_le hS.1) (cA_le hS.1) (fun u_6 H locs hu_6 hP hkk hS => ?_)
  refine lv_iconst (v := 0) hx hb dX4_copy_9 (by decide) ?_
  refine lv_istore_n (lv' := [(1, .int 0), (0, .ref (ad 0))]) hx hb dX4_copy_10 rfl hl (by decide) rfl (fun ls hl => ?_)
  refine lv_iconst (v := 0) hx hb dX4_copy_11 (by decide) ?_
  refine lv_istore_n (lv' := [(2, .int 0), (1, .int 0), (0, .ref (ad 0))]) hx hb dX4_copy_12 rfl hl (by decide) rfl (fun ls hl => ?_)
  suffices ih_13 : ∀ (fu : Nat) (i : Nat) (f : Nat → Int32) (sn : Int32) (H : Heap) (locs : List Loc) (ls : Array Slot), 8 - i < fu → (i ≤ 8) → (∀ j, j < i → f (16 + j) = cpT (R 0) j) → (∀ j, j < 16 ∨ 16 + i ≤ j → f j = R 0 j) → (sn = cgS (qz (R 0)) (cpT (R 0)) i) → va_P D vwCl (mw T ad (upd (upd I 0 0) 1 (nI (min (sv + 1) 6))) (updR (updR R 1 u_6) 0 f)) H →  va_S (cA 7 ad s.heap.size) s.heap H locs → lv_has ls 3 [(0, .ref (ad 0)), (1, .int sn), (2, .int (nI i))] → W p l e (headSpec wsX4_copy ({ frames := 3, cells := 0, slots := 0, locals := 66 })).room s m ([.ref (ad 0)] : List Value).toArray below meth c H locs 0 0 (MQ below (va_Qi (fun r (f : Nat → Int32) => r = (cgS (qz (R 0)) (cpT (R 0)) 8) ∧ recP (R 1) (R 0) sv f) (fun (f : Nat → Int32) t => va_P D vwCl (mw T ad (upd (upd I 0 0) 1 (nI (min (sv + 1) 6))) (updR (updR R 1 f) 0 (cpM (R 0)))) t.heap) (cA 7 ad s.heap.size)) ([.ref (ad 0)] : List Value).toArray s 0 0 (cA 7 ad s.heap.size)) (F0 m 13 ls []) from
    ih_13 _ 0 (R 0) 0 _ _ _ (Nat.lt_succ_self _) (by omega) (fun j h => absurd h (Nat.not_lt_zero j)) (fun _ _ => rfl) (rfl) (m_self hP) hS (lv_sub hl [2, 1, 0] rfl)
  intro fu
  induction fu with
  | zero => intro i f sn H locs ls hfu; exact absurd hfu (Nat.not_lt_zero _)
  | succ fu ih_13 =>
    intro i f sn H locs ls hfu hi hf1 hf2 hs hP hS hl
    refine lv_iload_n hx hb dX4_copy_13 rfl (lv_at hl 2 rfl) ?_
    refine lv_bipush (v := 8) hx hb dX4_copy_14 (by decide) ?_
    refine lv_icmp_ge (tgt := 55) hx hb dX4_copy_16 (by decide) (fun c_16 => ?_) (fun c_16 => ?_)
    · have c_16 : 8 ≤ i := (nI_leI (a := 8) (b := i) (by omega) (by omega)).mp c_16
      obtain rfl : i = 8 := by omega
      have hP := m_fin0 (g := cpM (R 0)) hP (cp_fin hf1 (fun j h => hf2 j (by omega)))
      refine lv_iload_n hx hb dX4_copy_55 rfl (lv_at hl 1 rfl) ?_
      exact W.iret (v := sn) hx hb hr (fun t ht hW => ⟨⟨sn, u_6, rfl, ⟨hs, hu_6⟩, by show va_P _ _ _ _; rw [ht]; exact hP⟩, hS.F ht⟩) hS.2.2 dX4_copy_56
    · have c_16 : ¬ (8 ≤ i) := fun h => c_16 ((nI_leI (a := 8) (b := i) (by omega) (by omega)).mpr h)
      refine lv_iload_n hx hb dX4_copy_19 rfl (lv_at hl 1 rfl) ?_
      refine lv_aload_n hx hb dX4_copy_20 rfl (lv_at hl 0 rfl) ?_
      refine lv_iload_n hx hb dX4_copy_21 rfl (lv_at hl 2 rfl) ?_
      refine cx_ri (va_runV (As := [.int (nI i)]) (rest := [.int sn]) ⟨hx, hb, hml, hown, hts⟩ (c_X4_difference l D T ad (upd (upd I 0 0) 1 (nI (min (sv + 1) 6))) (updR (updR R 1 u_6) 0 f) i (by omega)) (cwV 1 hts gX4_copy_X4_difference rfl rfl rfl (by decide +kernel) ⟨Nat.le_of_ble_eq_true rfl, Nat.le_of_ble_eq_true rfl⟩) ⟨MR.blind, va_recv hK hP (ci := 4) (q0 := 0) rfl mw_0, (MR.pre hP hK rfl)⟩ rfl rfl hl.1 rfl (lv_room (Nat.le_of_ble_eq_true rfl)) dX4_copy_22 ⟨Nat.le_of_ble_eq_true rfl, Nat.le_of_ble_eq_true rfl⟩) hS hP (fun H locs hP hS => ?_)
      refine cx_top (show (diF (qz (f)) (us (f)) i) = (qz (R 0) i - cpT (R 0) i) from by show f (16 + i) - trS (us f) i 8 = R 0 (16 + i) - trS (us (R 0)) i 8; rw [hf2 (16 + i) (by omega), trS_congr (us_lo (fun j hj => hf2 j (Or.inl hj)))]) ?_
      refine lv_if_eq (tgt := 32) hx hb dX4_copy_25 (by decide) (fun c_25 => ?_) (fun c_25 => ?_)
      · refine lv_iconst (v := 0) hx hb dX4_copy_32 (by decide) ?_
        refine lv_iadd hx hb dX4_copy_33 ?_
        refine lv_istore_n (lv' := [(1, .int (sn + 0)), (0, .ref (ad 0)), (2, .int (nI i))]) hx hb dX4_copy_34 rfl hl (by decide) rfl (fun ls hl => ?_)
        refine lv_aload_n hx hb dX4_copy_35 rfl (lv_at hl 1 rfl) ?_
        refine va_get (D := D) (ci := 4) (v := .ref (ad 1)) (C := RX4) (T := TX4) (N := 12) hx hb hts hinX4 hown hK hP 0 mw_0 rfl 1 (by decide) (hts (.fieldLink RX4 7 "SquareGearsModel" "z" "[I") (by decide +kernel)) (fun _ h9 => h9) rfl dX4_copy_36 ?_
        refine lv_bipush (v := 16) hx hb dX4_copy_39 (by decide) ?_
        refine lv_iload_n hx hb dX4_copy_41 rfl (lv_at hl 2 rfl) ?_
        refine lv_iadd hx hb dX4_copy_42 ?_
        refine cx_top (nI_add 16 i) ?_
        refine lv_aload_n hx hb dX4_copy_43 rfl (lv_at hl 1 rfl) ?_
        refine lv_iload_n hx hb dX4_copy_44 rfl (lv_at hl 2 rfl) ?_
        refine cx_ri (va_runV (As := [.int (nI i)]) (rest := [.int (nI (16 + i)), .ref (ad 1)]) ⟨hx, hb, hml, hown, hts⟩ (c_X4_traceAt l D T ad (upd (upd I 0 0) 1 (nI (min (sv + 1) 6))) (updR (updR R 1 u_6) 0 f) i (by omega)) (cwV 1 hts gX4_copy_X4_traceAt rfl rfl rfl (by decide +kernel) ⟨Nat.le_of_ble_eq_true rfl, Nat.le_of_ble_eq_true rfl⟩) ⟨MR.blind, va_recv hK hP (ci := 4) (q0 := 0) rfl mw_0, (MR.pre hP hK rfl)⟩ rfl rfl hl.1 rfl (lv_room (Nat.le_of_ble_eq_true rfl)) dX4_copy_45 ⟨Nat.le_of_ble_eq_true rfl, Nat.le_of_ble_eq_true rfl⟩) hS hP (fun H locs hP hS => ?_)
        refine cx_top (show (trS (us (f)) i 8) = (cpT (R 0) i) from trS_congr (us_lo (fun j hj => hf2 j (Or.inl hj)))) ?_
        refine cx_iast (k := (16 + i)) hx hb hK hP (hD _ _) hS 1 1 mw_1 rfl (by omega) (by decide) mw_R0 dX4_copy_48 (fun H locs hP hS => ?_)
        refine lv_iinc (k := 2) (v := (nI (i + 1))) (lv' := [(2, .int (nI (i + 1))), (1, .int (sn + 0)), (0, .ref (ad 0))]) hx hb dX4_copy_49 hl rfl (nI_add i 1) (by decide) rfl (fun ls hl => ?_)
        refine lv_goto (tgt := 13) hx hb dX4_copy_52 (by decide) ?_
        exact ih_13 (i + 1) (upd f (16 + i) (cpT (R 0) i)) (sn + 0) _ _ _ (by omega) (by omega) (ru_1 hf1 rfl) (fun j h => by unfold upd; rw [if_neg (by omega)]; exact hf2 j (by omega)) (by first | exact cgm_a hs c_25 | exact cgm_b hs c_25) (m_upd hP) hS (lv_sub hl [2, 1, 0] rfl)
      · refine lv_iconst (v := 1) hx hb dX4_copy_28 (by decide) ?_
        refine lv_goto (tgt := 33) hx hb dX4_copy_29 (by decide) ?_
        refine lv_iadd hx hb dX4_copy_33 ?_
        refine lv_istore_n (lv' := [(1, .int (sn + 1)), (0, .ref (ad 0)), (2, .int (nI i))]) hx hb dX4_copy_34 rfl hl (by decide) rfl (fun ls hl => ?_)
        refine lv_aload_n hx hb dX4_copy_35 rfl (lv_at hl 1 rfl) ?_
        refine va_get (D := D) (ci := 4) (v := .ref (ad 1)) (C := RX4) (T := TX4) (N := 12) hx hb hts hinX4 hown hK hP 0 mw_0 rfl 1 (by decide) (hts (.fieldLink RX4 7 "SquareGearsModel" "z" "[I") (by decide +kernel)) (fun _ h9 => h9) rfl dX4_copy_36 ?_
        refine lv_bipush (v := 16) hx hb dX4_copy_39 (by decide) ?_
        refine lv_iload_n hx hb dX4_copy_41 rfl (lv_at hl 2 rfl) ?_
        refine lv_iadd hx hb dX4_copy_42 ?_
        refine cx_top (nI_add 16 i) ?_
        refine lv_aload_n hx hb dX4_copy_43 rfl (lv_at hl 1 rfl) ?_
        refine lv_iload_n hx hb dX4_copy_44 rfl (lv_at hl 2 rfl) ?_
        refine cx_ri (va_runV (As := [.int (nI i)]) (rest := [.int (nI (16 + i)), .ref (ad 1)]) ⟨hx, hb, hml, hown, hts⟩ (c_X4_traceAt l D T ad (upd (upd I 0 0) 1 (nI (min (sv + 1) 6))) (updR (updR R 1 u_6) 0 f) i (by omega)) (cwV 1 hts gX4_copy_X4_traceAt rfl rfl rfl (by decide +kernel) ⟨Nat.le_of_ble_eq_true rfl, Nat.le_of_ble_eq_true rfl⟩) ⟨MR.blind, va_recv hK hP (ci := 4) (q0 := 0) rfl mw_0, (MR.pre hP hK rfl)⟩ rfl rfl hl.1 rfl (lv_room (Nat.le_of_ble_eq_true rfl)) dX4_copy_45 ⟨Nat.le_of_ble_eq_true rfl, Nat.le_of_ble_eq_true rfl⟩) hS hP (fun H locs hP hS => ?_)
        refine cx_top (show (trS (us (f)) i 8) = (cpT (R 0) i) from trS_congr (us_lo (fun j hj => hf2 j (Or.inl hj)))) ?_
        refine cx_iast (k := (16 + i)) hx hb hK hP (hD _ _) hS 1 1 mw_1 rfl (by omega) (by decide) mw_R0 dX4_copy_48 (fun H locs hP hS => ?_)
        refine lv_iinc (k := 2) (v := (nI (i + 1))) (lv' := [(2, .int (nI (i + 1))), (1, .int (sn + 1)), (0, .ref (ad 0))]) hx hb dX4_copy_49 hl rfl (nI_add i 1) (by decide) rfl (fun ls hl => ?_)
        refine lv_goto (tgt := 13) hx hb dX4_copy_52 (by decide) ?_
        exact ih_13 (i + 1) (upd f (16 + i) (cpT (R 0) i)) (sn + 1) _ _ _ (by omega) (by omega) (ru_1 hf1 rfl) (fun j h => by unfold upd; rw [if_neg (by omega)]; exact hf2 j (by omega)) (by first | exact cgm_a hs c_25 | exact cgm_b hs c_25) (m_upd hP) hS (lv_sub hl [2, 1, 0] rfl)
set_option maxHeartbeats 4000000 in
set_option maxRecDepth 100000 in
theorem c_X4_fit (l : Launch) (D : va_G) (T : Nat → ClassId) (ad : Nat → Nat) (I : Nat → Int32) (R : Nat → Nat → Int32) (sz : Nat) (sv : Nat) (hAD : AD 7 ad) (hsv6 : sv ≤ 6) (hsv : I 1 = nI sv) : Met l yX4_fit wsX4_fit ({ frames := 2, cells := 0, slots := 0, locals := 45 }) (va_Pc [.ref (ad 0)] (MB D T ad I R sz)) (va_Qi (fun r (f : Nat → Int32) => r = (cgS (R 0) (fiF (qz (R 0))) 8) ∧ recP (R 1) (R 0) sv f) (fun (f : Nat → Int32) t => va_P D vwCl (mw T ad (upd (upd I 0 0) 1 (nI (min (sv + 1) 6))) (updR (updR R 1 f) 0 (upd (fmM (R 0)) 24 (R 0 24 + cgS (R 0) (fiF (qz (R 0))) 8)))) t.heap) (cA 7 ad sz)) 0 0 (cA 7 ad sz) := by
  refine Met.ofW (cc := cX4_fit) (maxL := 4) (ret := (some .int)) (by decide) rfl ?_
  intro p e s m args_ below meth c s₁ B hml hv
  obtain ⟨rfl, hsz, hP, hK⟩ := hv
  have hx := B.exec
  have hb := B.bytes
  have hr := B.returns
  have hts := atoms_spec (ws := wsX4_fit) B.pre
  have hown : s.vm.findClass RX4 = some m.cls := findClass_of_methodNamed B.named
  have hlocks := B.notSynchronized
  have hinX4 : ∀ w ∈ u_ws RX4 TX4 12, w ∈ wsX4_fit := by decide +kernel
  subst hsz
  have hS : va_S (cA 7 ad s.heap.size) s.heap s.heap [] := va_S.rf
  have hD : ∀ I R, va_D (cA 7 ad s.heap.size) (mw T ad I R) := fun I R => mw_D hAD (fun k hk => cA_in hk)
  have hl := lv_entry ([.ref (ad 0)]) (n := 4) (Nat.le_of_ble_eq_true rfl)
  rw [lg_entry_eq]
  generalize (lg_sl ([.ref (ad 0)]) ++ List.replicate (4 - (lg_sl ([.ref (ad 0)])).length) Slot.unset).toArray = ls at hl ⊢
  have hl : lv_has ls 4 [(0, .ref (ad 0))] := hl
  refine lv_aload_n hx hb dX4_fit_0 rfl (lv_at hl 0 rfl) ?_
  refine lv_iconst (v := 0) hx hb dX4_fit_1 (by decide) ?_
  refine cx_put (D := D) (ci := 4) (v := 0) (ty := .int) (C := RX4) (T := TX4) (N := 12) hx hb hts hinX4 tyX4 tyX4_ok nmX4 hown hK hP (hD _ _) hS 0 mw_0 rfl 0 (by decide) (hts (.fieldLink RX4 29 "SquareGearsModel" "thrown" "I") (by decide +kernel)) (fun _ h9 => h9) rfl (by decide +kernel) rfl rfl (Nat.le_of_ble_eq_true rfl) mw_I0 dX4_fit_2 (fun H locs hP hS => ?_)
  refine lv_aload_n hx hb dX4_fit_5 rfl (lv_at hl 0 rfl) ?_
  refine cx_wv (va_runV (As := []) (rest := []) ⟨hx, hb, hml, hown, hts⟩ (c_X4_record l D T ad (upd I 0 0) R _ sv (hAD) (hsv6) (hsv)) (cwV 0 hts gX4_fit_X4_record rfl rfl rfl (by decide +kernel) ⟨Nat.le_of_ble_eq_true rfl, Nat.le_of_ble_eq_true rfl⟩) ⟨MB.blind, va_recv hK hP (ci := 4) (q0 := 0) rfl mw_0, (MB.pre hP hK rfl)⟩ rfl rfl hl.1 rfl (lv_room (Nat.le_of_ble_eq_true rfl)) dX4_fit_6 ⟨Nat.le_of_ble_eq_true rfl, Nat.le_of_ble_eq_true rfl⟩) hS (cA_le hS.1) (cA_le hS.1) (fun u_6 H locs hu_6 hP hkk hS => ?_)
  refine lv_iconst (v := 0) hx hb dX4_fit_9 (by decide) ?_
  refine lv_istore_n (lv' := [(1, .int 0), (0, .ref (ad 0))]) hx hb dX4_fit_10 rfl hl (by decide) rfl (fun ls hl => ?_)
  refine lv_iconst (v := 0) hx hb dX4_fit_11 (by decide) ?_
  refine lv_istore_n (lv' := [(2, .int 0), (1, .int 0), (0, .ref (ad 0))]) hx hb dX4_fit_12 rfl hl (by decide) rfl (fun ls hl => ?_)
  suffices ih_13 : ∀ (fu : Nat) (i : Nat) (f : Nat → Int32) (sn : Int32) (H : Heap) (locs : List Loc) (ls : Array Slot), 8 - i < fu → (i ≤ 8) → (∀ j, j < i → f j = fiF (qz (R 0)) j) → (∀ j, j < i → f (8 + j) = 0) → (∀ j, (i ≤ j ∧ j < 8) ∨ 8 + i ≤ j → f j = R 0 j) → (sn = cgS (R 0) (fiF (qz (R 0))) i) → va_P D vwCl (mw T ad (upd (upd I 0 0) 1 (nI (min (sv + 1) 6))) (updR (updR R 1 u_6) 0 f)) H →  va_S (cA 7 ad s.heap.size) s.heap H locs → lv_has ls 4 [(0, .ref (ad 0)), (1, .int sn), (2, .int (nI i))] → W p l e (headSpec wsX4_fit ({ frames := 2, cells := 0, slots := 0, locals := 45 })).room s m ([.ref (ad 0)] : List Value).toArray below meth c H locs 0 0 (MQ below (va_Qi (fun r (f : Nat → Int32) => r = (cgS (R 0) (fiF (qz (R 0))) 8) ∧ recP (R 1) (R 0) sv f) (fun (f : Nat → Int32) t => va_P D vwCl (mw T ad (upd (upd I 0 0) 1 (nI (min (sv + 1) 6))) (updR (updR R 1 f) 0 (upd (fmM (R 0)) 24 (R 0 24 + cgS (R 0) (fiF (qz (R 0))) 8)))) t.heap) (cA 7 ad s.heap.size)) ([.ref (ad 0)] : List Value).toArray s 0 0 (cA 7 ad s.heap.size)) (F0 m 13 ls []) from
    ih_13 _ 0 (R 0) 0 _ _ _ (Nat.lt_succ_self _) (by omega) (fun j h => absurd h (Nat.not_lt_zero j)) (fun j h => absurd h (Nat.not_lt_zero j)) (fun _ _ => rfl) (rfl) (m_self hP) hS (lv_sub hl [2, 1, 0] rfl)
  intro fu
  induction fu with
  | zero => intro i f sn H locs ls hfu; exact absurd hfu (Nat.not_lt_zero _)
  | succ fu ih_13 =>
    intro i f sn H locs ls hfu hi hf1 hf2 hf3 hs hP hS hl
    refine lv_iload_n hx hb dX4_fit_13 rfl (lv_at hl 2 rfl) ?_
    refine lv_bipush (v := 8) hx hb dX4_fit_14 (by decide) ?_
    refine lv_icmp_ge (tgt := 90) hx hb dX4_fit_16 (by decide) (fun c_16 => ?_) (fun c_16 => ?_)
    · have c_16 : 8 ≤ i := (nI_leI (a := 8) (b := i) (by omega) (by omega)).mp c_16
      obtain rfl : i = 8 := by omega
      have hP := m_fin0 (g := fmM (R 0)) hP (fm_fin hf1 hf2 hf3)
      refine lv_aload_n hx hb dX4_fit_90 rfl (lv_at hl 0 rfl) ?_
      refine va_get (D := D) (ci := 4) (v := .ref (ad 1)) (C := RX4) (T := TX4) (N := 12) hx hb hts hinX4 hown hK hP 0 mw_0 rfl 1 (by decide) (hts (.fieldLink RX4 7 "SquareGearsModel" "z" "[I") (by decide +kernel)) (fun _ h9 => h9) rfl dX4_fit_91 ?_
      refine lv_bipush (v := 24) hx hb dX4_fit_94 (by decide) ?_
      refine lv_dup2_11 hx hb dX4_fit_96 rfl rfl ?_
      refine cx_iald (k := 24) hx hb hK hP 1 1 mw_1 rfl (by decide) (by decide) dX4_fit_97 ?_
      refine lv_iload_n hx hb dX4_fit_98 rfl (lv_at hl 1 rfl) ?_
      refine lv_iadd hx hb dX4_fit_99 ?_
      refine cx_iast (k := 24) hx hb hK hP (hD _ _) hS 1 1 mw_1 rfl (by decide) (by decide) mw_R0 dX4_fit_100 (fun H locs hP hS => ?_)
      refine lv_iload_n hx hb dX4_fit_101 rfl (lv_at hl 1 rfl) ?_
      exact W.iret (v := sn) hx hb hr (fun t ht hW => ⟨⟨sn, u_6, rfl, ⟨hs, hu_6⟩, by show va_P _ _ _ _; rw [ht]; exact (by have h := m_upd hP; rw [hs] at h; exact h)⟩, hS.F ht⟩) hS.2.2 dX4_fit_102
    · have c_16 : ¬ (8 ≤ i) := fun h => c_16 ((nI_leI (a := 8) (b := i) (by omega) (by omega)).mpr h)
      refine lv_aload_n hx hb dX4_fit_19 rfl (lv_at hl 0 rfl) ?_
      refine lv_iload_n hx hb dX4_fit_20 rfl (lv_at hl 2 rfl) ?_
      refine cx_ri (va_runV (As := [.int (nI i)]) (rest := []) ⟨hx, hb, hml, hown, hts⟩ (c_X4_ofPattern l D T ad (upd (upd I 0 0) 1 (nI (min (sv + 1) 6))) (updR (updR R 1 u_6) 0 f) i (by omega)) (cwV 1 hts gX4_fit_X4_ofPattern rfl rfl rfl (by decide +kernel) ⟨Nat.le_of_ble_eq_true rfl, Nat.le_of_ble_eq_true rfl⟩) ⟨MR.blind, va_recv hK hP (ci := 4) (q0 := 0) rfl mw_0, (MR.pre hP hK rfl)⟩ rfl rfl hl.1 rfl (lv_room (Nat.le_of_ble_eq_true rfl)) dX4_fit_21 ⟨Nat.le_of_ble_eq_true rfl, Nat.le_of_ble_eq_true rfl⟩) hS hP (fun H locs hP hS => ?_)
      refine cx_top (show (psS (qz (f)) i 8 >>> (3 : Int32)) = (psS (qz (R 0)) i 8 >>> (3 : Int32)) from by show psS (qz f) i 8 >>> (3 : Int32) = _; rw [psS_congr (d := qz f) (g := qz (R 0)) (i := 8) (fun n hn => hf3 (16 + n) (by omega))]) ?_
      refine lv_istore_n (lv' := [(3, .int (psS (qz (R 0)) i 8 >>> (3 : Int32))), (0, .ref (ad 0)), (1, .int sn), (2, .int (nI i))]) hx hb dX4_fit_24 rfl hl (by decide) rfl (fun ls hl => ?_)
      refine lv_iload_n hx hb dX4_fit_25 rfl (lv_at hl 0 rfl) ?_
      refine lv_bipush (v := (-99)) hx hb dX4_fit_26 (by decide) ?_
      refine lv_icmp_ge (tgt := 36) hx hb dX4_fit_28 (by decide) (fun c_28 => ?_) (fun c_28 => ?_)
      · refine lv_iload_n hx hb dX4_fit_36 rfl (lv_at hl 0 rfl) ?_
        refine lv_bipush (v := 99) hx hb dX4_fit_37 (by decide) ?_
        refine lv_icmp_le (tgt := 47) hx hb dX4_fit_39 (by decide) (fun c_39 => ?_) (fun c_39 => ?_)
        · refine lv_iload_n hx hb dX4_fit_47 rfl (lv_at hl 0 rfl) ?_
          refine cx_top (y := fiF (qz (R 0)) i) (by show _ = clI (psS (qz (R 0)) i 8 >>> (3 : Int32)); exact cl_c c_28 c_39) ?_
          refine lv_istore_n (lv' := [(3, .int (fiF (qz (R 0)) i)), (0, .ref (ad 0)), (1, .int sn), (2, .int (nI i))]) hx hb dX4_fit_48 rfl hl (by decide) rfl (fun ls hl => ?_)
          refine lv_iload_n hx hb dX4_fit_49 rfl (lv_at hl 2 rfl) ?_
          refine lv_iload_n hx hb dX4_fit_50 rfl (lv_at hl 0 rfl) ?_
          refine lv_aload_n hx hb dX4_fit_51 rfl (lv_at hl 1 rfl) ?_
          refine va_get (D := D) (ci := 4) (v := .ref (ad 1)) (C := RX4) (T := TX4) (N := 12) hx hb hts hinX4 hown hK hP 0 mw_0 rfl 1 (by decide) (hts (.fieldLink RX4 7 "SquareGearsModel" "z" "[I") (by decide +kernel)) (fun _ h9 => h9) rfl dX4_fit_52 ?_
          refine lv_iload_n hx hb dX4_fit_55 rfl (lv_at hl 3 rfl) ?_
          refine cx_iald (k := i) hx hb hK hP 1 1 mw_1 rfl (by omega) (by decide) dX4_fit_56 ?_
          refine lv_icmp_ne (tgt := 64) hx hb dX4_fit_57 (by decide) (fun c_57 => ?_) (fun c_57 => ?_)
          · refine lv_iconst (v := 1) hx hb dX4_fit_64 (by decide) ?_
            refine lv_iadd hx hb dX4_fit_65 ?_
            refine lv_istore_n (lv' := [(1, .int (sn + 1)), (3, .int (fiF (qz (R 0)) i)), (0, .ref (ad 0)), (2, .int (nI i))]) hx hb dX4_fit_66 rfl hl (by decide) rfl (fun ls hl => ?_)
            refine lv_aload_n hx hb dX4_fit_67 rfl (lv_at hl 2 rfl) ?_
            refine va_get (D := D) (ci := 4) (v := .ref (ad 1)) (C := RX4) (T := TX4) (N := 12) hx hb hts hinX4 hown hK hP 0 mw_0 rfl 1 (by decide) (hts (.fieldLink RX4 7 "SquareGearsModel" "z" "[I") (by decide +kernel)) (fun _ h9 => h9) rfl dX4_fit_68 ?_
            refine lv_iload_n hx hb dX4_fit_71 rfl (lv_at hl 3 rfl) ?_
            refine lv_iload_n hx hb dX4_fit_72 rfl (lv_at hl 1 rfl) ?_
            refine cx_iast (k := i) hx hb hK hP (hD _ _) hS 1 1 mw_1 rfl (by omega) (by decide) mw_R0 dX4_fit_73 (fun H locs hP hS => ?_)
            refine lv_aload_n hx hb dX4_fit_74 rfl (lv_at hl 2 rfl) ?_
            refine va_get (D := D) (ci := 4) (v := .ref (ad 1)) (C := RX4) (T := TX4) (N := 12) hx hb hts hinX4 hown hK hP 0 mw_0 rfl 1 (by decide) (hts (.fieldLink RX4 7 "SquareGearsModel" "z" "[I") (by decide +kernel)) (fun _ h9 => h9) rfl dX4_fit_75 ?_
            refine lv_bipush (v := 8) hx hb dX4_fit_78 (by decide) ?_
            refine lv_iload_n hx hb dX4_fit_80 rfl (lv_at hl 3 rfl) ?_
            refine lv_iadd hx hb dX4_fit_81 ?_
            refine cx_top (nI_add 8 i) ?_
            refine lv_iconst (v := 0) hx hb dX4_fit_82 (by decide) ?_
            refine cx_iast (k := (8 + i)) hx hb hK hP (hD _ _) hS 1 1 mw_1 rfl (by omega) (by decide) mw_R0 dX4_fit_83 (fun H locs hP hS => ?_)
            refine lv_iinc (k := 3) (v := (nI (i + 1))) (lv' := [(2, .int (nI (i + 1))), (1, .int (sn + 1)), (3, .int (fiF (qz (R 0)) i)), (0, .ref (ad 0))]) hx hb dX4_fit_84 hl rfl (nI_add i 1) (by decide) rfl (fun ls hl => ?_)
            refine lv_goto (tgt := 13) hx hb dX4_fit_87 (by decide) ?_
            exact ih_13 (i + 1) (upd (upd f i (fiF (qz (R 0)) i)) (8 + i) 0) (sn + 1) _ _ _ (by omega) (by omega) (fm_1 (by omega) hf1 rfl) (fm_2 (by omega) hf2) (fm_3 (by omega) hf3) (cgf_b hs (hf3 i (by omega)) c_57) (m_upd (m_upd hP)) hS (lv_sub hl [3, 1, 0] rfl)
          · refine lv_iconst (v := 0) hx hb dX4_fit_60 (by decide) ?_
            refine lv_goto (tgt := 65) hx hb dX4_fit_61 (by decide) ?_
            refine lv_iadd hx hb dX4_fit_65 ?_
            refine lv_istore_n (lv' := [(1, .int (sn + 0)), (3, .int (fiF (qz (R 0)) i)), (0, .ref (ad 0)), (2, .int (nI i))]) hx hb dX4_fit_66 rfl hl (by decide) rfl (fun ls hl => ?_)
            refine lv_aload_n hx hb dX4_fit_67 rfl (lv_at hl 2 rfl) ?_
            refine va_get (D := D) (ci := 4) (v := .ref (ad 1)) (C := RX4) (T := TX4) (N := 12) hx hb hts hinX4 hown hK hP 0 mw_0 rfl 1 (by decide) (hts (.fieldLink RX4 7 "SquareGearsModel" "z" "[I") (by decide +kernel)) (fun _ h9 => h9) rfl dX4_fit_68 ?_
            refine lv_iload_n hx hb dX4_fit_71 rfl (lv_at hl 3 rfl) ?_
            refine lv_iload_n hx hb dX4_fit_72 rfl (lv_at hl 1 rfl) ?_
            refine cx_iast (k := i) hx hb hK hP (hD _ _) hS 1 1 mw_1 rfl (by omega) (by decide) mw_R0 dX4_fit_73 (fun H locs hP hS => ?_)
            refine lv_aload_n hx hb dX4_fit_74 rfl (lv_at hl 2 rfl) ?_
            refine va_get (D := D) (ci := 4) (v := .ref (ad 1)) (C := RX4) (T := TX4) (N := 12) hx hb hts hinX4 hown hK hP 0 mw_0 rfl 1 (by decide) (hts (.fieldLink RX4 7 "SquareGearsModel" "z" "[I") (by decide +kernel)) (fun _ h9 => h9) rfl dX4_fit_75 ?_
            refine lv_bipush (v := 8) hx hb dX4_fit_78 (by decide) ?_
            refine lv_iload_n hx hb dX4_fit_80 rfl (lv_at hl 3 rfl) ?_
            refine lv_iadd hx hb dX4_fit_81 ?_
            refine cx_top (nI_add 8 i) ?_
            refine lv_iconst (v := 0) hx hb dX4_fit_82 (by decide) ?_
            refine cx_iast (k := (8 + i)) hx hb hK hP (hD _ _) hS 1 1 mw_1 rfl (by omega) (by decide) mw_R0 dX4_fit_83 (fun H locs hP hS => ?_)
            refine lv_iinc (k := 3) (v := (nI (i + 1))) (lv' := [(2, .int (nI (i + 1))), (1, .int (sn + 0)), (3, .int (fiF (qz (R 0)) i)), (0, .ref (ad 0))]) hx hb dX4_fit_84 hl rfl (nI_add i 1) (by decide) rfl (fun ls hl => ?_)
            refine lv_goto (tgt := 13) hx hb dX4_fit_87 (by decide) ?_
            exact ih_13 (i + 1) (upd (upd f i (fiF (qz (R 0)) i)) (8 + i) 0) (sn + 0) _ _ _ (by omega) (by omega) (fm_1 (by omega) hf1 rfl) (fm_2 (by omega) hf2) (fm_3 (by omega) hf3) (cgf_a hs (hf3 i (by omega)) c_57) (m_upd (m_upd hP)) hS (lv_sub hl [3, 1, 0] rfl)
        · refine lv_bipush (v := 99) hx hb dX4_fit_42 (by decide) ?_
          refine lv_goto (tgt := 48) hx hb dX4_fit_44 (by decide) ?_
          refine cx_top (y := fiF (qz (R 0)) i) (by show _ = clI (psS (qz (R 0)) i 8 >>> (3 : Int32)); exact cl_b c_28 c_39) ?_
          refine lv_istore_n (lv' := [(3, .int (fiF (qz (R 0)) i)), (0, .ref (ad 0)), (1, .int sn), (2, .int (nI i))]) hx hb dX4_fit_48 rfl hl (by decide) rfl (fun ls hl => ?_)
          refine lv_iload_n hx hb dX4_fit_49 rfl (lv_at hl 2 rfl) ?_
          refine lv_iload_n hx hb dX4_fit_50 rfl (lv_at hl 0 rfl) ?_
          refine lv_aload_n hx hb dX4_fit_51 rfl (lv_at hl 1 rfl) ?_
          refine va_get (D := D) (ci := 4) (v := .ref (ad 1)) (C := RX4) (T := TX4) (N := 12) hx hb hts hinX4 hown hK hP 0 mw_0 rfl 1 (by decide) (hts (.fieldLink RX4 7 "SquareGearsModel" "z" "[I") (by decide +kernel)) (fun _ h9 => h9) rfl dX4_fit_52 ?_
          refine lv_iload_n hx hb dX4_fit_55 rfl (lv_at hl 3 rfl) ?_
          refine cx_iald (k := i) hx hb hK hP 1 1 mw_1 rfl (by omega) (by decide) dX4_fit_56 ?_
          refine lv_icmp_ne (tgt := 64) hx hb dX4_fit_57 (by decide) (fun c_57 => ?_) (fun c_57 => ?_)
          · refine lv_iconst (v := 1) hx hb dX4_fit_64 (by decide) ?_
            refine lv_iadd hx hb dX4_fit_65 ?_
            refine lv_istore_n (lv' := [(1, .int (sn + 1)), (3, .int (fiF (qz (R 0)) i)), (0, .ref (ad 0)), (2, .int (nI i))]) hx hb dX4_fit_66 rfl hl (by decide) rfl (fun ls hl => ?_)
            refine lv_aload_n hx hb dX4_fit_67 rfl (lv_at hl 2 rfl) ?_
            refine va_get (D := D) (ci := 4) (v := .ref (ad 1)) (C := RX4) (T := TX4) (N := 12) hx hb hts hinX4 hown hK hP 0 mw_0 rfl 1 (by decide) (hts (.fieldLink RX4 7 "SquareGearsModel" "z" "[I") (by decide +kernel)) (fun _ h9 => h9) rfl dX4_fit_68 ?_
            refine lv_iload_n hx hb dX4_fit_71 rfl (lv_at hl 3 rfl) ?_
            refine lv_iload_n hx hb dX4_fit_72 rfl (lv_at hl 1 rfl) ?_
            refine cx_iast (k := i) hx hb hK hP (hD _ _) hS 1 1 mw_1 rfl (by omega) (by decide) mw_R0 dX4_fit_73 (fun H locs hP hS => ?_)
            refine lv_aload_n hx hb dX4_fit_74 rfl (lv_at hl 2 rfl) ?_
            refine va_get (D := D) (ci := 4) (v := .ref (ad 1)) (C := RX4) (T := TX4) (N := 12) hx hb hts hinX4 hown hK hP 0 mw_0 rfl 1 (by decide) (hts (.fieldLink RX4 7 "SquareGearsModel" "z" "[I") (by decide +kernel)) (fun _ h9 => h9) rfl dX4_fit_75 ?_
            refine lv_bipush (v := 8) hx hb dX4_fit_78 (by decide) ?_
            refine lv_iload_n hx hb dX4_fit_80 rfl (lv_at hl 3 rfl) ?_
            refine lv_iadd hx hb dX4_fit_81 ?_
            refine cx_top (nI_add 8 i) ?_
            refine lv_iconst (v := 0) hx hb dX4_fit_82 (by decide) ?_
            refine cx_iast (k := (8 + i)) hx hb hK hP (hD _ _) hS 1 1 mw_1 rfl (by omega) (by decide) mw_R0 dX4_fit_83 (fun H locs hP hS => ?_)
            refine lv_iinc (k := 3) (v := (nI (i + 1))) (lv' := [(2, .int (nI (i + 1))), (1, .int (sn + 1)), (3, .int (fiF (qz (R 0)) i)), (0, .ref (ad 0))]) hx hb dX4_fit_84 hl rfl (nI_add i 1) (by decide) rfl (fun ls hl => ?_)
            refine lv_goto (tgt := 13) hx hb dX4_fit_87 (by decide) ?_
            exact ih_13 (i + 1) (upd (upd f i (fiF (qz (R 0)) i)) (8 + i) 0) (sn + 1) _ _ _ (by omega) (by omega) (fm_1 (by omega) hf1 rfl) (fm_2 (by omega) hf2) (fm_3 (by omega) hf3) (cgf_b hs (hf3 i (by omega)) c_57) (m_upd (m_upd hP)) hS (lv_sub hl [3, 1, 0] rfl)
          · refine lv_iconst (v := 0) hx hb dX4_fit_60 (by decide) ?_
            refine lv_goto (tgt := 65) hx hb dX4_fit_61 (by decide) ?_
            refine lv_iadd hx hb dX4_fit_65 ?_
            refine lv_istore_n (lv' := [(1, .int (sn + 0)), (3, .int (fiF (qz (R 0)) i)), (0, .ref (ad 0)), (2, .int (nI i))]) hx hb dX4_fit_66 rfl hl (by decide) rfl (fun ls hl => ?_)
            refine lv_aload_n hx hb dX4_fit_67 rfl (lv_at hl 2 rfl) ?_
            refine va_get (D := D) (ci := 4) (v := .ref (ad 1)) (C := RX4) (T := TX4) (N := 12) hx hb hts hinX4 hown hK hP 0 mw_0 rfl 1 (by decide) (hts (.fieldLink RX4 7 "SquareGearsModel" "z" "[I") (by decide +kernel)) (fun _ h9 => h9) rfl dX4_fit_68 ?_
            refine lv_iload_n hx hb dX4_fit_71 rfl (lv_at hl 3 rfl) ?_
            refine lv_iload_n hx hb dX4_fit_72 rfl (lv_at hl 1 rfl) ?_
            refine cx_iast (k := i) hx hb hK hP (hD _ _) hS 1 1 mw_1 rfl (by omega) (by decide) mw_R0 dX4_fit_73 (fun H locs hP hS => ?_)
            refine lv_aload_n hx hb dX4_fit_74 rfl (lv_at hl 2 rfl) ?_
            refine va_get (D := D) (ci := 4) (v := .ref (ad 1)) (C := RX4) (T := TX4) (N := 12) hx hb hts hinX4 hown hK hP 0 mw_0 rfl 1 (by decide) (hts (.fieldLink RX4 7 "SquareGearsModel" "z" "[I") (by decide +kernel)) (fun _ h9 => h9) rfl dX4_fit_75 ?_
            refine lv_bipush (v := 8) hx hb dX4_fit_78 (by decide) ?_
            refine lv_iload_n hx hb dX4_fit_80 rfl (lv_at hl 3 rfl) ?_
            refine lv_iadd hx hb dX4_fit_81 ?_
            refine cx_top (nI_add 8 i) ?_
            refine lv_iconst (v := 0) hx hb dX4_fit_82 (by decide) ?_
            refine cx_iast (k := (8 + i)) hx hb hK hP (hD _ _) hS 1 1 mw_1 rfl (by omega) (by decide) mw_R0 dX4_fit_83 (fun H locs hP hS => ?_)
            refine lv_iinc (k := 3) (v := (nI (i + 1))) (lv' := [(2, .int (nI (i + 1))), (1, .int (sn + 0)), (3, .int (fiF (qz (R 0)) i)), (0, .ref (ad 0))]) hx hb dX4_fit_84 hl rfl (nI_add i 1) (by decide) rfl (fun ls hl => ?_)
            refine lv_goto (tgt := 13) hx hb dX4_fit_87 (by decide) ?_
            exact ih_13 (i + 1) (upd (upd f i (fiF (qz (R 0)) i)) (8 + i) 0) (sn + 0) _ _ _ (by omega) (by omega) (fm_1 (by omega) hf1 rfl) (fm_2 (by omega) hf2) (fm_3 (by omega) hf3) (cgf_a hs (hf3 i (by omega)) c_57) (m_upd (m_upd hP)) hS (lv_sub hl [3, 1, 0] rfl)
      · refine lv_bipush (v := (-99)) hx hb dX4_fit_31 (by decide) ?_
        refine lv_goto (tgt := 48) hx hb dX4_fit_33 (by decide) ?_
        refine cx_top (y := fiF (qz (R 0)) i) (by show _ = clI (psS (qz (R 0)) i 8 >>> (3 : Int32)); exact cl_a c_28) ?_
        refine lv_istore_n (lv' := [(3, .int (fiF (qz (R 0)) i)), (0, .ref (ad 0)), (1, .int sn), (2, .int (nI i))]) hx hb dX4_fit_48 rfl hl (by decide) rfl (fun ls hl => ?_)
        refine lv_iload_n hx hb dX4_fit_49 rfl (lv_at hl 2 rfl) ?_
        refine lv_iload_n hx hb dX4_fit_50 rfl (lv_at hl 0 rfl) ?_
        refine lv_aload_n hx hb dX4_fit_51 rfl (lv_at hl 1 rfl) ?_
        refine va_get (D := D) (ci := 4) (v := .ref (ad 1)) (C := RX4) (T := TX4) (N := 12) hx hb hts hinX4 hown hK hP 0 mw_0 rfl 1 (by decide) (hts (.fieldLink RX4 7 "SquareGearsModel" "z" "[I") (by decide +kernel)) (fun _ h9 => h9) rfl dX4_fit_52 ?_
        refine lv_iload_n hx hb dX4_fit_55 rfl (lv_at hl 3 rfl) ?_
        refine cx_iald (k := i) hx hb hK hP 1 1 mw_1 rfl (by omega) (by decide) dX4_fit_56 ?_
        refine lv_icmp_ne (tgt := 64) hx hb dX4_fit_57 (by decide) (fun c_57 => ?_) (fun c_57 => ?_)
        · refine lv_iconst (v := 1) hx hb dX4_fit_64 (by decide) ?_
          refine lv_iadd hx hb dX4_fit_65 ?_
          refine lv_istore_n (lv' := [(1, .int (sn + 1)), (3, .int (fiF (qz (R 0)) i)), (0, .ref (ad 0)), (2, .int (nI i))]) hx hb dX4_fit_66 rfl hl (by decide) rfl (fun ls hl => ?_)
          refine lv_aload_n hx hb dX4_fit_67 rfl (lv_at hl 2 rfl) ?_
          refine va_get (D := D) (ci := 4) (v := .ref (ad 1)) (C := RX4) (T := TX4) (N := 12) hx hb hts hinX4 hown hK hP 0 mw_0 rfl 1 (by decide) (hts (.fieldLink RX4 7 "SquareGearsModel" "z" "[I") (by decide +kernel)) (fun _ h9 => h9) rfl dX4_fit_68 ?_
          refine lv_iload_n hx hb dX4_fit_71 rfl (lv_at hl 3 rfl) ?_
          refine lv_iload_n hx hb dX4_fit_72 rfl (lv_at hl 1 rfl) ?_
          refine cx_iast (k := i) hx hb hK hP (hD _ _) hS 1 1 mw_1 rfl (by omega) (by decide) mw_R0 dX4_fit_73 (fun H locs hP hS => ?_)
          refine lv_aload_n hx hb dX4_fit_74 rfl (lv_at hl 2 rfl) ?_
          refine va_get (D := D) (ci := 4) (v := .ref (ad 1)) (C := RX4) (T := TX4) (N := 12) hx hb hts hinX4 hown hK hP 0 mw_0 rfl 1 (by decide) (hts (.fieldLink RX4 7 "SquareGearsModel" "z" "[I") (by decide +kernel)) (fun _ h9 => h9) rfl dX4_fit_75 ?_
          refine lv_bipush (v := 8) hx hb dX4_fit_78 (by decide) ?_
          refine lv_iload_n hx hb dX4_fit_80 rfl (lv_at hl 3 rfl) ?_
          refine lv_iadd hx hb dX4_fit_81 ?_
          refine cx_top (nI_add 8 i) ?_
          refine lv_iconst (v := 0) hx hb dX4_fit_82 (by decide) ?_
          refine cx_iast (k := (8 + i)) hx hb hK hP (hD _ _) hS 1 1 mw_1 rfl (by omega) (by decide) mw_R0 dX4_fit_83 (fun H locs hP hS => ?_)
          refine lv_iinc (k := 3) (v := (nI (i + 1))) (lv' := [(2, .int (nI (i + 1))), (1, .int (sn + 1)), (3, .int (fiF (qz (R 0)) i)), (0, .ref (ad 0))]) hx hb dX4_fit_84 hl rfl (nI_add i 1) (by decide) rfl (fun ls hl => ?_)
          refine lv_goto (tgt := 13) hx hb dX4_fit_87 (by decide) ?_
          exact ih_13 (i + 1) (upd (upd f i (fiF (qz (R 0)) i)) (8 + i) 0) (sn + 1) _ _ _ (by omega) (by omega) (fm_1 (by omega) hf1 rfl) (fm_2 (by omega) hf2) (fm_3 (by omega) hf3) (cgf_b hs (hf3 i (by omega)) c_57) (m_upd (m_upd hP)) hS (lv_sub hl [3, 1, 0] rfl)
        · refine lv_iconst (v := 0) hx hb dX4_fit_60 (by decide) ?_
          refine lv_goto (tgt := 65) hx hb dX4_fit_61 (by decide) ?_
          refine lv_iadd hx hb dX4_fit_65 ?_
          refine lv_istore_n (lv' := [(1, .int (sn + 0)), (3, .int (fiF (qz (R 0)) i)), (0, .ref (ad 0)), (2, .int (nI i))]) hx hb dX4_fit_66 rfl hl (by decide) rfl (fun ls hl => ?_)
          refine lv_aload_n hx hb dX4_fit_67 rfl (lv_at hl 2 rfl) ?_
          refine va_get (D := D) (ci := 4) (v := .ref (ad 1)) (C := RX4) (T := TX4) (N := 12) hx hb hts hinX4 hown hK hP 0 mw_0 rfl 1 (by decide) (hts (.fieldLink RX4 7 "SquareGearsModel" "z" "[I") (by decide +kernel)) (fun _ h9 => h9) rfl dX4_fit_68 ?_
          refine lv_iload_n hx hb dX4_fit_71 rfl (lv_at hl 3 rfl) ?_
          refine lv_iload_n hx hb dX4_fit_72 rfl (lv_at hl 1 rfl) ?_
          refine cx_iast (k := i) hx hb hK hP (hD _ _) hS 1 1 mw_1 rfl (by omega) (by decide) mw_R0 dX4_fit_73 (fun H locs hP hS => ?_)
          refine lv_aload_n hx hb dX4_fit_74 rfl (lv_at hl 2 rfl) ?_
          refine va_get (D := D) (ci := 4) (v := .ref (ad 1)) (C := RX4) (T := TX4) (N := 12) hx hb hts hinX4 hown hK hP 0 mw_0 rfl 1 (by decide) (hts (.fieldLink RX4 7 "SquareGearsModel" "z" "[I") (by decide +kernel)) (fun _ h9 => h9) rfl dX4_fit_75 ?_
          refine lv_bipush (v := 8) hx hb dX4_fit_78 (by decide) ?_
          refine lv_iload_n hx hb dX4_fit_80 rfl (lv_at hl 3 rfl) ?_
          refine lv_iadd hx hb dX4_fit_81 ?_
          refine cx_top (nI_add 8 i) ?_
          refine lv_iconst (v := 0) hx hb dX4_fit_82 (by decide) ?_
          refine cx_iast (k := (8 + i)) hx hb hK hP (hD _ _) hS 1 1 mw_1 rfl (by omega) (by decide) mw_R0 dX4_fit_83 (fun H locs hP hS => ?_)
          refine lv_iinc (k := 3) (v := (nI (i + 1))) (lv' := [(2, .int (nI (i + 1))), (1, .int (sn + 0)), (3, .int (fiF (qz (R 0)) i)), (0, .ref (ad 0))]) hx hb dX4_fit_84 hl rfl (nI_add i 1) (by decide) rfl (fun ls hl => ?_)
          refine lv_goto (tgt := 13) hx hb dX4_fit_87 (by decide) ?_
          exact ih_13 (i + 1) (upd (upd f i (fiF (qz (R 0)) i)) (8 + i) 0) (sn + 0) _ _ _ (by omega) (by omega) (fm_1 (by omega) hf1 rfl) (fm_2 (by omega) hf2) (fm_3 (by omega) hf3) (cgf_a hs (hf3 i (by omega)) c_57) (m_upd (m_upd hP)) hS (lv_sub hl [3, 1, 0] rfl)

set_option maxHeartbeats 4000000 in
set_option maxRecDepth 100000 in
theorem c_X4_load (l : Launch) (D : va_G) (T : Nat → ClassId) (ad : Nat → Nat) (I : Nat → Int32) (R : Nat → Nat → Int32) (sz : Nat) (sv : Nat) (len : Nat) (hAD : AD 7 ad) (hsv6 : sv ≤ 6) (hsv : I 1 = nI sv) (hlen : len ≤ 60) (hI2 : I 2 = nI len) (hfer : ferS (R 4) len 61 0 = -1) : Met l yX4_load wsX4_load ({ frames := 4, cells := 0, slots := 0, locals := 86 }) (va_Pc [.ref (ad 0)] (MB D T ad I R sz)) (va_Qi (fun r (o : (Nat → Int32) × Int32 × Int32 × Int32) => r = (cnS (ldF (R 4) len (R 0)) 8) ∧ recP (R 1) (R 0) sv o.1) (fun (o : (Nat → Int32) × Int32 × Int32 × Int32) t => va_P D vwCl (mw T ad (upd (upd (upd (upd (upd (upd I 0 0) 1 (nI (min (sv + 1) 6))) 3 o.2.1) 5 o.2.2.1) 4 o.2.2.2) 2 0) (updR (updR R 1 o.1) 0 (ldF (R 4) len (R 0)))) t.heap) (cA 7 ad sz)) 0 0 (cA 7 ad sz) := by
  refine Met.ofW (cc := cX4_load) (maxL := 2) (ret := (some .int)) (by decide) rfl ?_
  intro p e s m args_ below meth c s₁ B hml hv
  obtain ⟨rfl, hsz, hP, hK⟩ := hv
  have hx := B.exec
  have hb := B.bytes
  have hr := B.returns
  have hts := atoms_spec (ws := wsX4_load) B.pre
  have hown : s.vm.findClass RX4 = some m.cls := findClass_of_methodNamed B.named
  have hlocks := B.notSynchronized
  have hinX4 : ∀ w ∈ u_ws RX4 TX4 12, w ∈ wsX4_load := by decide +kernel
  subst hsz
  have hS : va_S (cA 7 ad s.heap.size) s.heap s.heap [] := va_S.rf
  have hD : ∀ I R, va_D (cA 7 ad s.heap.size) (mw T ad I R) := fun I R => mw_D hAD (fun k hk => cA_in hk)
  have hl := lv_entry ([.ref (ad 0)]) (n := 2) (Nat.le_of_ble_eq_true rfl)
  rw [lg_entry_eq]
  generalize (lg_sl ([.ref (ad 0)]) ++ List.replicate (2 - (lg_sl ([.ref (ad 0)])).length) Slot.unset).toArray = ls at hl ⊢
  have hl : lv_has ls 2 [(0, .ref (ad 0))] := hl
  refine lv_aload_n hx hb dX4_load_0 rfl (lv_at hl 0 rfl) ?_
  refine lv_aload_n hx hb dX4_load_1 rfl (lv_at hl 0 rfl) ?_
  refine cx_wi (va_runV (As := []) (rest := [.ref (ad 0)]) ⟨hx, hb, hml, hown, hts⟩ (c_X4_findError l D T ad I R _ len (hAD) (hlen) (hI2)) (cwV 0 hts gX4_load_X4_findError rfl rfl rfl (by decide +kernel) ⟨Nat.le_of_ble_eq_true rfl, Nat.le_of_ble_eq_true rfl⟩) ⟨MB.blind, va_recv hK hP (ci := 4) (q0 := 0) rfl mw_0, (MB.pre hP hK rfl)⟩ rfl rfl hl.1 rfl (lv_room (Nat.le_of_ble_eq_true rfl)) dX4_load_2 ⟨Nat.le_of_ble_eq_true rfl, Nat.le_of_ble_eq_true rfl⟩) hS (cA_le hS.1) (cA_le hS.1) (fun u_2 H locs hu_2 hP hkk hS => ?_)
  refine cx_top (show (ferS ((R 4)) len 61 0) = (-1) from hfer) ?_
  refine lv_if_ge (tgt := 12) hx hb dX4_load_5 (by decide) (fun c_5 => absurd c_5 (by decide)) (fun c_5 => ?_)
  refine lv_iconst (v := 0) hx hb dX4_load_8 (by decide) ?_
  refine lv_goto (tgt := 13) hx hb dX4_load_9 (by decide) ?_
  refine cx_put (D := D) (ci := 4) (v := 0) (ty := .int) (C := RX4) (T := TX4) (N := 12) hx hb hts hinX4 tyX4 tyX4_ok nmX4 hown hK hP (hD _ _) hS 0 mw_0 rfl 0 (by decide) (hts (.fieldLink RX4 29 "SquareGearsModel" "thrown" "I") (by decide +kernel)) (fun _ h9 => h9) rfl (by decide +kernel) rfl rfl (Nat.le_of_ble_eq_true rfl) mw_I0 dX4_load_13 (fun H locs hP hS => ?_)
  refine lv_aload_n hx hb dX4_load_16 rfl (lv_at hl 0 rfl) ?_
  refine va_get (D := D) (ci := 4) (v := .int 0) (C := RX4) (T := TX4) (N := 12) hx hb hts hinX4 hown hK hP 0 mw_0 rfl 0 (by decide) (hts (.fieldLink RX4 29 "SquareGearsModel" "thrown" "I") (by decide +kernel)) (fun _ h9 => h9) rfl dX4_load_17 ?_
  refine lv_if_le (tgt := 25) hx hb dX4_load_20 (by decide) (fun c_20 => ?_) (fun c_20 => absurd c_20 (by decide))
  refine lv_aload_n hx hb dX4_load_25 rfl (lv_at hl 0 rfl) ?_
  refine cx_wv (va_runV (As := []) (rest := []) ⟨hx, hb, hml, hown, hts⟩ (c_X4_record l D T ad (upd (upd (upd (upd I 3 u_2.1) 5 u_2.2.1) 4 u_2.2.2) 0 0) R _ sv (hAD) (hsv6) (hsv)) (cwV 0 hts gX4_load_X4_record rfl rfl rfl (by decide +kernel) ⟨Nat.le_of_ble_eq_true rfl, Nat.le_of_ble_eq_true rfl⟩) ⟨MB.blind, va_recv hK hP (ci := 4) (q0 := 0) rfl mw_0, (MB.pre hP hK rfl)⟩ rfl rfl hl.1 rfl (lv_room (Nat.le_of_ble_eq_true rfl)) dX4_load_26 ⟨Nat.le_of_ble_eq_true rfl, Nat.le_of_ble_eq_true rfl⟩) hS (cA_le hS.1) (cA_le hS.1) (fun u_26 H locs hu_26 hP hkk hS => ?_)
  refine lv_iconst (v := 0) hx hb dX4_load_29 (by decide) ?_
  refine lv_istore_n (lv' := [(1, .int (nI 0)), (0, .ref (ad 0))]) hx hb dX4_load_30 rfl hl (by decide) rfl (fun ls hl => ?_)
  suffices ih_31 : ∀ (fu : Nat) (i : Nat) (f : Nat → Int32) (H : Heap) (locs : List Loc) (ls : Array Slot), 16 - i < fu → (i ≤ 16) → (∀ j, j < i → f j = clM (R 0) j) → (∀ j, i ≤ j → f j = R 0 j) → va_P D vwCl (mw T ad (upd (upd (upd (upd (upd I 3 u_2.1) 5 u_2.2.1) 4 u_2.2.2) 0 0) 1 (nI (min (sv + 1) 6))) (updR (updR R 1 u_26) 0 f)) H →  va_S (cA 7 ad s.heap.size) s.heap H locs → lv_has ls 2 [(0, .ref (ad 0)), (1, .int (nI i))] → W p l e (headSpec wsX4_load ({ frames := 4, cells := 0, slots := 0, locals := 86 })).room s m ([.ref (ad 0)] : List Value).toArray below meth c H locs 0 0 (MQ below (va_Qi (fun r (o : (Nat → Int32) × Int32 × Int32 × Int32) => r = (cnS (ldF (R 4) len (R 0)) 8) ∧ recP (R 1) (R 0) sv o.1) (fun (o : (Nat → Int32) × Int32 × Int32 × Int32) t => va_P D vwCl (mw T ad (upd (upd (upd (upd (upd (upd I 0 0) 1 (nI (min (sv + 1) 6))) 3 o.2.1) 5 o.2.2.1) 4 o.2.2.2) 2 0) (updR (updR R 1 o.1) 0 (ldF (R 4) len (R 0)))) t.heap) (cA 7 ad s.heap.size)) ([.ref (ad 0)] : List Value).toArray s 0 0 (cA 7 ad s.heap.size)) (F0 m 31 ls []) from
    ih_31 _ 0 (R 0) _ _ _ (Nat.lt_succ_self _) (by omega) (fun j h => absurd h (Nat.not_lt_zero j)) (fun _ _ => rfl) (m_self hP) hS (lv_sub hl [1, 0] rfl)
  intro fu
  induction fu with
  | zero => intro i f H locs ls hfu; exact absurd hfu (Nat.not_lt_zero _)
  | succ fu ih_31 =>
    intro i f H locs ls hfu hi hf1 hf2 hP hS hl
    refine lv_iload_n hx hb dX4_load_31 rfl (lv_at hl 1 rfl) ?_
    refine lv_bipush (v := 16) hx hb dX4_load_32 (by decide) ?_
    refine lv_icmp_ge (tgt := 50) hx hb dX4_load_34 (by decide) (fun c_34 => ?_) (fun c_34 => ?_)
    · have c_34 : 16 ≤ i := (nI_leI (a := 16) (b := i) (by omega) (by omega)).mp c_34
      obtain rfl : i = 16 := by omega
      have hP := m_fin0 (g := clM (R 0)) hP (cl_fin hf1 hf2)
      refine lv_iconst (v := 0) hx hb dX4_load_50 (by decide) ?_
      refine lv_istore_n (lv' := [(1, .int (nI 0)), (0, .ref (ad 0))]) hx hb dX4_load_51 rfl hl (by decide) rfl (fun ls hl => ?_)
      suffices ih_52 : ∀ (fu : Nat) (n : Nat) (i : Nat) (f : Nat → Int32) (w : Int32) (b : Int32) (xa : Int32) (H : Heap) (locs : List Loc) (ls : Array Slot), len + 1 - i < fu → (i ≤ len + 1) → (len < n + i) → (i ≤ len → ferS (R 4) len n i = -1) → (ldF (R 4) len (R 0) = ldS (atF (R 4) len) len n i f) → va_P D vwCl (mw T ad (upd (upd (upd (upd (upd I 0 0) 1 (nI (min (sv + 1) 6))) 3 w) 5 b) 4 xa) (updR (updR R 1 u_26) 0 f)) H →  va_S (cA 7 ad s.heap.size) s.heap H locs → lv_has ls 2 [(0, .ref (ad 0)), (1, .int (nI i))] → W p l e (headSpec wsX4_load ({ frames := 4, cells := 0, slots := 0, locals := 86 })).room s m ([.ref (ad 0)] : List Value).toArray below meth c H locs 0 0 (MQ below (va_Qi (fun r (o : (Nat → Int32) × Int32 × Int32 × Int32) => r = (cnS (ldF (R 4) len (R 0)) 8) ∧ recP (R 1) (R 0) sv o.1) (fun (o : (Nat → Int32) × Int32 × Int32 × Int32) t => va_P D vwCl (mw T ad (upd (upd (upd (upd (upd (upd I 0 0) 1 (nI (min (sv + 1) 6))) 3 o.2.1) 5 o.2.2.1) 4 o.2.2.2) 2 0) (updR (updR R 1 o.1) 0 (ldF (R 4) len (R 0)))) t.heap) (cA 7 ad s.heap.size)) ([.ref (ad 0)] : List Value).toArray s 0 0 (cA 7 ad s.heap.size)) (F0 m 52 ls []) from
        ih_52 _ 61 0 (clM (R 0)) u_2.1 u_2.2.1 u_2.2.2 _ _ _ (Nat.lt_succ_self _) (by omega) (by omega) (fun _ => hfer) (rfl) (m_ord hP) hS (lv_sub hl [1, 0] rfl)
      intro fu
      induction fu with
      | zero => intro n i f w b xa H locs ls hfu; exact absurd hfu (Nat.not_lt_zero _)
      | succ fu ih_52 =>
        intro n i f w b xa H locs ls hfu hi hn hok hF hP hS hl
        refine lv_iload_n hx hb dX4_load_52 rfl (lv_at hl 1 rfl) ?_
        refine lv_aload_n hx hb dX4_load_53 rfl (lv_at hl 0 rfl) ?_
        refine va_get (D := D) (ci := 4) (v := .int (I 2)) (C := RX4) (T := TX4) (N := 12) hx hb hts hinX4 hown hK hP 0 mw_0 rfl 7 (by decide) (hts (.fieldLink RX4 74 "SquareGearsModel" "length" "I") (by decide +kernel)) (fun _ h9 => h9) rfl dX4_load_54 ?_
        refine cx_top (show (I 2) = (nI len) from hI2) ?_
        refine lv_icmp_ge (tgt := 107) hx hb dX4_load_57 (by decide) (fun c_57 => ?_) (fun c_57 => ?_)
        · have c_57 : len ≤ i := (nI_leI (a := len) (b := i) (by omega) (by omega)).mp c_57
          obtain rfl : f = ldF (R 4) len (R 0) := (hF.trans (ld_e c_57)).symm
          refine lv_aload_n hx hb dX4_load_107 rfl (lv_at hl 0 rfl) ?_
          refine lv_iconst (v := 0) hx hb dX4_load_108 (by decide) ?_
          refine cx_put (D := D) (ci := 4) (v := 0) (ty := .int) (C := RX4) (T := TX4) (N := 12) hx hb hts hinX4 tyX4 tyX4_ok nmX4 hown hK hP (hD _ _) hS 0 mw_0 rfl 7 (by decide) (hts (.fieldLink RX4 74 "SquareGearsModel" "length" "I") (by decide +kernel)) (fun _ h9 => h9) rfl (by decide +kernel) rfl rfl (Nat.le_of_ble_eq_true rfl) mw_I2 dX4_load_109 (fun H locs hP hS => ?_)
          refine lv_aload_n hx hb dX4_load_112 rfl (lv_at hl 0 rfl) ?_
          refine cx_ri (va_runV (As := []) (rest := []) ⟨hx, hb, hml, hown, hts⟩ (c_X4_turning l D T ad (upd (upd (upd (upd (upd (upd I 0 0) 1 (nI (min (sv + 1) 6))) 3 w) 5 b) 4 xa) 2 0) (updR (updR R 1 u_26) 0 (ldF (R 4) len (R 0))) ) (cwV 0 hts gX4_load_X4_turning rfl rfl rfl (by decide +kernel) ⟨Nat.le_of_ble_eq_true rfl, Nat.le_of_ble_eq_true rfl⟩) ⟨MR.blind, va_recv hK hP (ci := 4) (q0 := 0) rfl mw_0, (MR.pre hP hK rfl)⟩ rfl rfl hl.1 rfl (lv_room (Nat.le_of_ble_eq_true rfl)) dX4_load_113 ⟨Nat.le_of_ble_eq_true rfl, Nat.le_of_ble_eq_true rfl⟩) hS hP (fun H locs hP hS => ?_)
          exact W.iret (v := (cnS ((ldF (R 4) len (R 0))) 8)) hx hb hr (fun t ht hW => ⟨⟨(cnS ((ldF (R 4) len (R 0))) 8), (u_26, w, b, xa), rfl, ⟨rfl, hu_26⟩, by show va_P _ _ _ _; rw [ht]; exact hP⟩, hS.F ht⟩) hS.2.2 dX4_load_116
        · have c_57 : ¬ (len ≤ i) := fun h => c_57 ((nI_leI (a := len) (b := i) (by omega) (by omega)).mpr h)
          refine lv_aload_n hx hb dX4_load_60 rfl (lv_at hl 0 rfl) ?_
          refine lv_iload_n hx hb dX4_load_61 rfl (lv_at hl 1 rfl) ?_
          refine cx_wi (va_runV (As := [.int (nI i)]) (rest := []) ⟨hx, hb, hml, hown, hts⟩ (c_X4_readPart l D T ad (upd (upd (upd (upd (upd I 0 0) 1 (nI (min (sv + 1) 6))) 3 w) 5 b) 4 xa) (updR (updR R 1 u_26) 0 f) _ len i (hAD) (hlen) (hI2) (by omega)) (cwV 1 hts gX4_load_X4_readPart rfl rfl rfl (by decide +kernel) ⟨Nat.le_of_ble_eq_true rfl, Nat.le_of_ble_eq_true rfl⟩) ⟨MB.blind, va_recv hK hP (ci := 4) (q0 := 0) rfl mw_0, (MB.pre hP hK rfl)⟩ rfl rfl hl.1 rfl (lv_room (Nat.le_of_ble_eq_true rfl)) dX4_load_62 ⟨Nat.le_of_ble_eq_true rfl, Nat.le_of_ble_eq_true rfl⟩) hS (cA_le hS.1) (cA_le hS.1) (fun u_62 H locs hu_62 hP hkk hS => ?_)
          have hP := m_345 hP
          refine cx_top (show ((rpF (atF ((R 4)) len) (xa) i).1) = (mrp1 (atF (R 4) len) i) from mrp1_eq) ?_
          obtain ⟨j, hq, hj1, hj2, hj3⟩ := fer_ok (by omega) (by omega) (hok (by omega))
          have hw := wl_1 (by omega) hq (by omega)
          have hw8 := hw.2
          rw [hq]
          refine lv_iconst (v := 1) hx hb dX4_load_65 (by decide) ?_
          refine lv_iadd hx hb dX4_load_66 ?_
          refine cx_top (nI_add j 1) ?_
          refine lv_istore_n (lv' := [(1, .int (nI (j + 1))), (0, .ref (ad 0))]) hx hb dX4_load_67 rfl hl (by decide) rfl (fun ls hl => ?_)
          refine lv_aload_n hx hb dX4_load_68 rfl (lv_at hl 1 rfl) ?_
          refine va_get (D := D) (ci := 4) (v := .int (rpL (atF ((R 4)) len) i)) (C := RX4) (T := TX4) (N := 12) hx hb hts hinX4 hown hK hP 0 mw_0 rfl 10 (by decide) (hts (.fieldLink RX4 83 "SquareGearsModel" "isLoss" "Z") (by decide +kernel)) (fun _ h9 => h9) rfl dX4_load_69 ?_
          refine lv_if_eq (tgt := 91) hx hb dX4_load_72 (by decide) (fun c_72 => ?_) (fun c_72 => ?_)
          · refine lv_aload_n hx hb dX4_load_91 rfl (lv_at hl 1 rfl) ?_
            refine va_get (D := D) (ci := 4) (v := .ref (ad 1)) (C := RX4) (T := TX4) (N := 12) hx hb hts hinX4 hown hK hP 0 mw_0 rfl 1 (by decide) (hts (.fieldLink RX4 7 "SquareGearsModel" "z" "[I") (by decide +kernel)) (fun _ h9 => h9) rfl dX4_load_92 ?_
            refine lv_aload_n hx hb dX4_load_95 rfl (lv_at hl 1 rfl) ?_
            refine va_get (D := D) (ci := 4) (v := .int (atF ((R 4)) len i - 97)) (C := RX4) (T := TX4) (N := 12) hx hb hts hinX4 hown hK hP 0 mw_0 rfl 8 (by decide) (hts (.fieldLink RX4 80 "SquareGearsModel" "wheel" "I") (by decide +kernel)) (fun _ h9 => h9) rfl dX4_load_96 ?_
            refine cx_top (show (atF ((R 4)) len i - 97) = (nI (wlF (atF (R 4) len) i)) from hw.1) ?_
            refine lv_aload_n hx hb dX4_load_99 rfl (lv_at hl 1 rfl) ?_
            refine va_get (D := D) (ci := 4) (v := .int ((rpF (atF ((R 4)) len) (xa) i).2)) (C := RX4) (T := TX4) (N := 12) hx hb hts hinX4 hown hK hP 0 mw_0 rfl 9 (by decide) (hts (.fieldLink RX4 87 "SquareGearsModel" "amplitude" "I") (by decide +kernel)) (fun _ h9 => h9) rfl dX4_load_100 ?_
            refine cx_top (show ((rpF (atF ((R 4)) len) (xa) i).2) = (ldA (atF (R 4) len) i) from lda_eq (by omega) hq (by omega) c_72) ?_
            refine cx_iast (k := (wlF (atF (R 4) len) i)) hx hb hK hP (hD _ _) hS 1 1 mw_1 rfl (by omega) (by decide) mw_R0 dX4_load_103 (fun H locs hP hS => ?_)
            refine lv_goto (tgt := 52) hx hb dX4_load_104 (by decide) ?_
            exact ih_52 (n - 1) (j + 1) (upd f (wlF (atF (R 4) len) i) (ldA (atF (R 4) len) i)) (atF ((R 4)) len i - 97) (rpL (atF ((R 4)) len) i) ((rpF (atF ((R 4)) len) (xa) i).2) _ _ _ (by omega) (by omega) (by omega) (fun h => (hj3 (by omega)).resolve_left (by omega)) (hF.trans (ld_a (by omega) (by omega) hq (by omega) c_72)) (m_upd hP) hS (lv_sub hl [1, 0] rfl)
          · refine lv_aload_n hx hb dX4_load_75 rfl (lv_at hl 1 rfl) ?_
            refine va_get (D := D) (ci := 4) (v := .ref (ad 1)) (C := RX4) (T := TX4) (N := 12) hx hb hts hinX4 hown hK hP 0 mw_0 rfl 1 (by decide) (hts (.fieldLink RX4 7 "SquareGearsModel" "z" "[I") (by decide +kernel)) (fun _ h9 => h9) rfl dX4_load_76 ?_
            refine lv_bipush (v := 8) hx hb dX4_load_79 (by decide) ?_
            refine lv_aload_n hx hb dX4_load_81 rfl (lv_at hl 1 rfl) ?_
            refine va_get (D := D) (ci := 4) (v := .int (atF ((R 4)) len i - 97)) (C := RX4) (T := TX4) (N := 12) hx hb hts hinX4 hown hK hP 0 mw_0 rfl 8 (by decide) (hts (.fieldLink RX4 80 "SquareGearsModel" "wheel" "I") (by decide +kernel)) (fun _ h9 => h9) rfl dX4_load_82 ?_
            refine cx_top (show (atF ((R 4)) len i - 97) = (nI (wlF (atF (R 4) len) i)) from hw.1) ?_
            refine lv_iadd hx hb dX4_load_85 ?_
            refine cx_top (nI_add 8 (wlF (atF (R 4) len) i)) ?_
            refine lv_iconst (v := 1) hx hb dX4_load_86 (by decide) ?_
            refine cx_iast (k := (8 + (wlF (atF (R 4) len) i))) hx hb hK hP (hD _ _) hS 1 1 mw_1 rfl (by omega) (by decide) mw_R0 dX4_load_87 (fun H locs hP hS => ?_)
            refine lv_goto (tgt := 52) hx hb dX4_load_88 (by decide) ?_
            exact ih_52 (n - 1) (j + 1) (upd f (8 + (wlF (atF (R 4) len) i)) 1) (atF ((R 4)) len i - 97) (rpL (atF ((R 4)) len) i) ((rpF (atF ((R 4)) len) (xa) i).2) _ _ _ (by omega) (by omega) (by omega) (fun h => (hj3 (by omega)).resolve_left (by omega)) (hF.trans (ld_b (by omega) (by omega) hq (by omega) c_72)) (m_upd hP) hS (lv_sub hl [1, 0] rfl)
    · have c_34 : ¬ (16 ≤ i) := fun h => c_34 ((nI_leI (a := 16) (b := i) (by omega) (by omega)).mpr h)
      refine lv_aload_n hx hb dX4_load_37 rfl (lv_at hl 0 rfl) ?_
      refine va_get (D := D) (ci := 4) (v := .ref (ad 1)) (C := RX4) (T := TX4) (N := 12) hx hb hts hinX4 hown hK hP 0 mw_0 rfl 1 (by decide) (hts (.fieldLink RX4 7 "SquareGearsModel" "z" "[I") (by decide +kernel)) (fun _ h9 => h9) rfl dX4_load_38 ?_
      refine lv_iload_n hx hb dX4_load_41 rfl (lv_at hl 1 rfl) ?_
      refine lv_iconst (v := 0) hx hb dX4_load_42 (by decide) ?_
      refine cx_iast (k := i) hx hb hK hP (hD _ _) hS 1 1 mw_1 rfl (by omega) (by decide) mw_R0 dX4_load_43 (fun H locs hP hS => ?_)
      refine lv_iinc (k := 1) (v := (nI (i + 1))) (lv' := [(1, .int (nI (i + 1))), (0, .ref (ad 0))]) hx hb dX4_load_44 hl rfl (nI_add i 1) (by decide) rfl (fun ls hl => ?_)
      refine lv_goto (tgt := 31) hx hb dX4_load_47 (by decide) ?_
      exact ih_31 (i + 1) (upd f i 0) _ _ _ (by omega) (by omega) (up_at hf1 (cl_t (by omega))) (un_up hf2) (m_upd hP) hS (lv_sub hl [1, 0] rfl)
set_option maxHeartbeats 4000000 in
set_option maxRecDepth 100000 in
theorem c_X4_load_e1 (l : Launch) (D : va_G) (T : Nat → ClassId) (ad : Nat → Nat) (I : Nat → Int32) (R : Nat → Nat → Int32) (sz : Nat) (len : Nat) (hAD : AD 7 ad) (hlen : len ≤ 60) (hI2 : I 2 = nI len) (hfer : 0 ≤ ferS (R 4) len 61 0) : Met l yX4_load wsX4_load ({ frames := 4, cells := 0, slots := 0, locals := 86 }) (va_Pc [.ref (ad 0)] (MB D T ad I R sz)) (va_Qi (fun r (o : Int32 × Int32 × Int32) => r = 0 ∧ True) (fun (o : Int32 × Int32 × Int32) t => va_P D vwCl (mw T ad (upd (upd (upd (upd I 3 o.1) 5 o.2.1) 4 o.2.2) 0 1) R) t.heap) (cA 7 ad sz)) 0 0 (cA 7 ad sz) := by
  refine Met.ofW (cc := cX4_load) (maxL := 2) (ret := (some .int)) (by decide) rfl ?_
  intro p e s m args_ below meth c s₁ B hml hv
  obtain ⟨rfl, hsz, hP, hK⟩ := hv
  have hx := B.exec
  have hb := B.bytes
  have hr := B.returns
  have hts := atoms_spec (ws := wsX4_load) B.pre
  have hown : s.vm.findClass RX4 = some m.cls := findClass_of_methodNamed B.named
  have hlocks := B.notSynchronized
  have hinX4 : ∀ w ∈ u_ws RX4 TX4 12, w ∈ wsX4_load := by decide +kernel
  subst hsz
  have hS : va_S (cA 7 ad s.heap.size) s.heap s.heap [] := va_S.rf
  have hD : ∀ I R, va_D (cA 7 ad s.heap.size) (mw T ad I R) := fun I R => mw_D hAD (fun k hk => cA_in hk)
  have hl := lv_entry ([.ref (ad 0)]) (n := 2) (Nat.le_of_ble_eq_true rfl)
  rw [lg_entry_eq]
  generalize (lg_sl ([.ref (ad 0)]) ++ List.replicate (2 - (lg_sl ([.ref (ad 0)])).length) Slot.unset).toArray = ls at hl ⊢
  have hl : lv_has ls 2 [(0, .ref (ad 0))] := hl
  refine lv_aload_n hx hb dX4_load_0 rfl (lv_at hl 0 rfl) ?_
  refine lv_aload_n hx hb dX4_load_1 rfl (lv_at hl 0 rfl) ?_
  refine cx_wi (va_runV (As := []) (rest := [.ref (ad 0)]) ⟨hx, hb, hml, hown, hts⟩ (c_X4_findError l D T ad I R _ len (hAD) (hlen) (hI2)) (cwV 0 hts gX4_load_X4_findError rfl rfl rfl (by decide +kernel) ⟨Nat.le_of_ble_eq_true rfl, Nat.le_of_ble_eq_true rfl⟩) ⟨MB.blind, va_recv hK hP (ci := 4) (q0 := 0) rfl mw_0, (MB.pre hP hK rfl)⟩ rfl rfl hl.1 rfl (lv_room (Nat.le_of_ble_eq_true rfl)) dX4_load_2 ⟨Nat.le_of_ble_eq_true rfl, Nat.le_of_ble_eq_true rfl⟩) hS (cA_le hS.1) (cA_le hS.1) (fun u_2 H locs hu_2 hP hkk hS => ?_)
  refine lv_if_ge (tgt := 12) hx hb dX4_load_5 (by decide) (fun c_5 => ?_) (fun c_5 => ?_)
  · refine lv_iconst (v := 1) hx hb dX4_load_12 (by decide) ?_
    refine cx_put (D := D) (ci := 4) (v := 1) (ty := .int) (C := RX4) (T := TX4) (N := 12) hx hb hts hinX4 tyX4 tyX4_ok nmX4 hown hK hP (hD _ _) hS 0 mw_0 rfl 0 (by decide) (hts (.fieldLink RX4 29 "SquareGearsModel" "thrown" "I") (by decide +kernel)) (fun _ h9 => h9) rfl (by decide +kernel) rfl rfl (Nat.le_of_ble_eq_true rfl) mw_I0 dX4_load_13 (fun H locs hP hS => ?_)
    refine lv_aload_n hx hb dX4_load_16 rfl (lv_at hl 0 rfl) ?_
    refine va_get (D := D) (ci := 4) (v := .int 1) (C := RX4) (T := TX4) (N := 12) hx hb hts hinX4 hown hK hP 0 mw_0 rfl 0 (by decide) (hts (.fieldLink RX4 29 "SquareGearsModel" "thrown" "I") (by decide +kernel)) (fun _ h9 => h9) rfl dX4_load_17 ?_
    refine lv_if_le (tgt := 25) hx hb dX4_load_20 (by decide) (fun c_20 => absurd c_20 (by decide)) (fun c_20 => ?_)
    refine lv_iconst (v := 0) hx hb dX4_load_23 (by decide) ?_
    exact W.iret (v := 0) hx hb hr (fun t ht hW => ⟨⟨0, u_2, rfl, ⟨rfl, trivial⟩, by show va_P _ _ _ _; rw [ht]; exact hP⟩, hS.F ht⟩) hS.2.2 dX4_load_24
  · exact absurd hfer c_5

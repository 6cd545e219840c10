set_option maxHeartbeats 4000000 in
set_option maxRecDepth 100000 in
theorem c_X4_record (l : Launch) (D : va_G) (T : Nat → ClassId) (ad : Nat → Nat) (I : Nat → Int32) (R : Nat → Nat → Int32) (sz : Nat) (sv : Nat) (hAD : AD 7 ad) (hsv6 : sv ≤ 6) (hsv : I 1 = nI sv) : Met l yX4_record wsX4_record ({ frames := 0, cells := 0, slots := 0, locals := 0 }) (va_Pc [.ref (ad 0)] (MB D T ad I R sz)) (va_Qv (fun (f : Nat → Int32) => recP (R 1) (R 0) sv f) (fun (f : Nat → Int32) t => va_P D vwCl (mw T ad (upd I 1 (nI (min (sv + 1) 6))) (updR R 1 f)) t.heap) (cA 7 ad sz)) 0 0 (cA 7 ad sz) := by
  refine Met.ofW (cc := cX4_record) (maxL := 2) (ret := none) (by decide) rfl ?_
  intro p e s m args_ below meth c s₁ B hml hv
  obtain ⟨rfl, hsz, hP, hK⟩ := hv
  have hx := B.exec
  have hb := B.bytes
  have hr := B.returns
  have hts := atoms_spec (ws := wsX4_record) B.pre
  have hown : s.vm.findClass RX4 = some m.cls := findClass_of_methodNamed B.named
  have hlocks := B.notSynchronized
  have hinX4 : ∀ w ∈ u_ws RX4 TX4 12, w ∈ wsX4_record := by decide +kernel
  subst hsz
  have hS : va_S (cA 7 ad s.heap.size) s.heap s.heap [] := va_S.rf
  have hD : ∀ I R, va_D (cA 7 ad s.heap.size) (mw T ad I R) := fun I R => mw_D hAD (fun k hk => cA_in hk)
  have hl := lv_entry ([.ref (ad 0)]) (n := 2) (Nat.le_of_ble_eq_true rfl)
  rw [lg_entry_eq]
  generalize (lg_sl ([.ref (ad 0)]) ++ List.replicate (2 - (lg_sl ([.ref (ad 0)])).length) Slot.unset).toArray = ls at hl ⊢
  have hl : lv_has ls 2 [(0, .ref (ad 0))] := hl
  refine lv_aload_n hx hb dX4_record_0 rfl (lv_at hl 0 rfl) ?_
  refine va_get (D := D) (ci := 4) (v := .int (I 1)) (C := RX4) (T := TX4) (N := 12) hx hb hts hinX4 hown hK hP 0 mw_0 rfl 3 (by decide) (hts (.fieldLink RX4 48 "SquareGearsModel" "saves" "I") (by decide +kernel)) (fun _ h9 => h9) rfl dX4_record_1 ?_
  refine cx_top (show (I 1) = (nI sv) from hsv) ?_
  refine lv_bipush (v := 6) hx hb dX4_record_4 (by decide) ?_
  refine lv_icmp_ne (tgt := 48) hx hb dX4_record_6 (by decide) (fun c_6 => ?_) (fun c_6 => ?_)
  · have c_6 : ¬ (sv = 6) := fun h => c_6 ((nI_eq (a := sv) (b := 6) (by omega) (by omega)).mpr h)
    refine lv_iconst (v := 0) hx hb dX4_record_48 (by decide) ?_
    refine lv_istore_n (lv' := [(1, .int 0), (0, .ref (ad 0))]) hx hb dX4_record_49 rfl hl (by decide) rfl (fun ls hl => ?_)
    suffices ih_50 : ∀ (fu : Nat) (i : Nat) (sb : Nat) (g : Nat → Int32) (H : Heap) (locs : List Loc) (ls : Array Slot), 25 - i < fu → (i ≤ 25) → (sb + 1 = min (sv + 1) 6) → (∀ k, k < i → g (25 * sb + k) = R 0 k) → (∀ j, j < 25 * sb → g j = (fun j => R 1 (j + 25 * (sv - sb))) j) → va_P D vwCl (mw T ad (upd I 1 (nI sb)) (updR R 1 g)) H →  va_S (cA 7 ad s.heap.size) s.heap H locs → lv_has ls 2 [(0, .ref (ad 0)), (1, .int (nI i))] → W p l e (headSpec wsX4_record ({ frames := 0, cells := 0, slots := 0, locals := 0 })).room s m ([.ref (ad 0)] : List Value).toArray below meth c H locs 0 0 (MQ below (va_Qv (fun (f : Nat → Int32) => recP (R 1) (R 0) sv f) (fun (f : Nat → Int32) t => va_P D vwCl (mw T ad (upd I 1 (nI (min (sv + 1) 6))) (updR R 1 f)) t.heap) (cA 7 ad s.heap.size)) ([.ref (ad 0)] : List Value).toArray s 0 0 (cA 7 ad s.heap.size)) (F0 m 50 ls []) from
      ih_50 _ 0 sv (R 1) _ _ _ (Nat.lt_succ_self _) (by omega) (by omega) (fun k h => absurd h (Nat.not_lt_zero k)) (fun j h => by show R 1 j = R 1 (j + 25 * (sv - sv)); rw [Nat.sub_self, Nat.mul_zero, Nat.add_zero]) (by first | exact hP | exact m_selfI hsv (m_self hP)) hS (lv_sub hl [1, 0] rfl)
    intro fu
    induction fu with
    | zero => intro i sb g H locs ls hfu; exact absurd hfu (Nat.not_lt_zero _)
    | succ fu ih_50 =>
      intro i sb g H locs ls hfu hi hsb hB1 hB2 hP hS hl
      refine lv_iload_n hx hb dX4_record_50 rfl (lv_at hl 1 rfl) ?_
      refine lv_bipush (v := 25) hx hb dX4_record_51 (by decide) ?_
      refine lv_icmp_ge (tgt := 82) hx hb dX4_record_53 (by decide) (fun c_53 => ?_) (fun c_53 => ?_)
      · have c_53 : 25 ≤ i := (nI_leI (a := 25) (b := i) (by omega) (by omega)).mp c_53
        obtain rfl : i = 25 := by omega
        refine lv_aload_n hx hb dX4_record_82 rfl (lv_at hl 0 rfl) ?_
        refine lv_dup hx hb dX4_record_83 rfl ?_
        refine va_get (D := D) (ci := 4) (v := .int (nI sb)) (C := RX4) (T := TX4) (N := 12) hx hb hts hinX4 hown hK hP 0 mw_0 rfl 3 (by decide) (hts (.fieldLink RX4 48 "SquareGearsModel" "saves" "I") (by decide +kernel)) (fun _ h9 => h9) rfl dX4_record_84 ?_
        refine lv_iconst (v := 1) hx hb dX4_record_87 (by decide) ?_
        refine lv_iadd hx hb dX4_record_88 ?_
        refine cx_top (nI_add sb 1) ?_
        refine cx_put (D := D) (ci := 4) (v := (nI (sb + 1))) (ty := .int) (C := RX4) (T := TX4) (N := 12) hx hb hts hinX4 tyX4 tyX4_ok nmX4 hown hK hP (hD _ _) hS 0 mw_0 rfl 3 (by decide) (hts (.fieldLink RX4 48 "SquareGearsModel" "saves" "I") (by decide +kernel)) (fun _ h9 => h9) rfl (by decide +kernel) rfl rfl (Nat.le_of_ble_eq_true rfl) mw_I1 dX4_record_89 (fun H locs hP hS => ?_)
        exact W.vret hx hb hr (fun t ht hW => ⟨⟨g, rfl, ⟨sb, hsb, hB1, hB2⟩, by show va_P _ _ _ _; rw [ht]; exact (by rw [← hsb]; exact m_updI hP)⟩, hS.F ht⟩) hS.2.2 dX4_record_92
      · have c_53 : ¬ (25 ≤ i) := fun h => c_53 ((nI_leI (a := 25) (b := i) (by omega) (by omega)).mpr h)
        refine lv_aload_n hx hb dX4_record_56 rfl (lv_at hl 0 rfl) ?_
        refine va_get (D := D) (ci := 4) (v := .ref (ad 2)) (C := RX4) (T := TX4) (N := 12) hx hb hts hinX4 hown hK hP 0 mw_0 rfl 2 (by decide) (hts (.fieldLink RX4 13 "SquareGearsModel" "saved" "[I") (by decide +kernel)) (fun _ h9 => h9) rfl dX4_record_57 ?_
        refine lv_bipush (v := 25) hx hb dX4_record_60 (by decide) ?_
        refine lv_aload_n hx hb dX4_record_62 rfl (lv_at hl 0 rfl) ?_
        refine va_get (D := D) (ci := 4) (v := .int (nI sb)) (C := RX4) (T := TX4) (N := 12) hx hb hts hinX4 hown hK hP 0 mw_0 rfl 3 (by decide) (hts (.fieldLink RX4 48 "SquareGearsModel" "saves" "I") (by decide +kernel)) (fun _ h9 => h9) rfl dX4_record_63 ?_
        refine lv_imul hx hb dX4_record_66 ?_
        refine cx_top (pk_mul 25 sb) ?_
        refine lv_iload_n hx hb dX4_record_67 rfl (lv_at hl 1 rfl) ?_
        refine lv_iadd hx hb dX4_record_68 ?_
        refine cx_top (nI_add (25 * sb) i) ?_
        refine lv_aload_n hx hb dX4_record_69 rfl (lv_at hl 0 rfl) ?_
        refine va_get (D := D) (ci := 4) (v := .ref (ad 1)) (C := RX4) (T := TX4) (N := 12) hx hb hts hinX4 hown hK hP 0 mw_0 rfl 1 (by decide) (hts (.fieldLink RX4 7 "SquareGearsModel" "z" "[I") (by decide +kernel)) (fun _ h9 => h9) rfl dX4_record_70 ?_
        refine lv_iload_n hx hb dX4_record_73 rfl (lv_at hl 1 rfl) ?_
        refine cx_iald (k := i) hx hb hK hP 1 1 mw_1 rfl (by omega) (by decide) dX4_record_74 ?_
        refine cx_iast (k := ((25 * sb) + i)) hx hb hK hP (hD _ _) hS 2 1 mw_2 rfl (by omega) (by decide) mw_R1 dX4_record_75 (fun H locs hP hS => ?_)
        refine lv_iinc (k := 1) (v := (nI (i + 1))) (lv' := [(1, .int (nI (i + 1))), (0, .ref (ad 0))]) hx hb dX4_record_76 hl rfl (nI_add i 1) (by decide) rfl (fun ls hl => ?_)
        refine lv_goto (tgt := 50) hx hb dX4_record_79 (by decide) ?_
        exact ih_50 (i + 1) sb (upd g ((25 * sb) + i) ((R 0) i)) _ _ _ (by omega) (by omega) (hsb) (ru_1 hB1 rfl) (ru_2 hB2) (m_upd hP) hS (lv_sub hl [1, 0] rfl)
  · have c_6 : sv = 6 := (nI_eq (a := sv) (b := 6) (by omega) (by omega)).mp c_6
    refine lv_iconst (v := 0) hx hb dX4_record_9 (by decide) ?_
    refine lv_istore_n (lv' := [(1, .int 0), (0, .ref (ad 0))]) hx hb dX4_record_10 rfl hl (by decide) rfl (fun ls hl => ?_)
    suffices ih_11 : ∀ (fu : Nat) (i : Nat) (f : Nat → Int32) (H : Heap) (locs : List Loc) (ls : Array Slot), 125 - i < fu → (i ≤ 125) → (∀ j, j < i → f j = (fun j => R 1 (25 + j)) j) → (∀ j, i ≤ j → f j = R 1 j) → va_P D vwCl (mw T ad I (updR R 1 f)) H →  va_S (cA 7 ad s.heap.size) s.heap H locs → lv_has ls 2 [(0, .ref (ad 0)), (1, .int (nI i))] → W p l e (headSpec wsX4_record ({ frames := 0, cells := 0, slots := 0, locals := 0 })).room s m ([.ref (ad 0)] : List Value).toArray below meth c H locs 0 0 (MQ below (va_Qv (fun (f : Nat → Int32) => recP (R 1) (R 0) sv f) (fun (f : Nat → Int32) t => va_P D vwCl (mw T ad (upd I 1 (nI (min (sv + 1) 6))) (updR R 1 f)) t.heap) (cA 7 ad s.heap.size)) ([.ref (ad 0)] : List Value).toArray s 0 0 (cA 7 ad s.heap.size)) (F0 m 11 ls []) from
      ih_11 _ 0 (R 1) _ _ _ (Nat.lt_succ_self _) (by omega) (fun j h => absurd h (Nat.not_lt_zero j)) (fun _ _ => rfl) (m_self hP) hS (lv_sub hl [1, 0] rfl)
    intro fu
    induction fu with
    | zero => intro i f H locs ls hfu; exact absurd hfu (Nat.not_lt_zero _)
    | succ fu ih_11 =>
      intro i f H locs ls hfu hi hA1 hA2 hP hS hl
      refine lv_iload_n hx hb dX4_record_11 rfl (lv_at hl 1 rfl) ?_
      refine lv_bipush (v := 125) hx hb dX4_record_12 (by decide) ?_
      refine lv_icmp_ge (tgt := 38) hx hb dX4_record_14 (by decide) (fun c_14 => ?_) (fun c_14 => ?_)
      · have c_14 : 125 ≤ i := (nI_leI (a := 125) (b := i) (by omega) (by omega)).mp c_14
        obtain rfl : i = 125 := by omega
        refine lv_aload_n hx hb dX4_record_38 rfl (lv_at hl 0 rfl) ?_
        refine lv_dup hx hb dX4_record_39 rfl ?_
        refine va_get (D := D) (ci := 4) (v := .int (I 1)) (C := RX4) (T := TX4) (N := 12) hx hb hts hinX4 hown hK hP 0 mw_0 rfl 3 (by decide) (hts (.fieldLink RX4 48 "SquareGearsModel" "saves" "I") (by decide +kernel)) (fun _ h9 => h9) rfl dX4_record_40 ?_
        refine cx_top (show (I 1) = (nI sv) from hsv) ?_
        refine lv_iconst (v := 1) hx hb dX4_record_43 (by decide) ?_
        refine lv_isub hx hb dX4_record_44 ?_
        refine cx_top (pk_sub (a := sv) (b := 1) (by omega)) ?_
        refine cx_put (D := D) (ci := 4) (v := (nI (sv - 1))) (ty := .int) (C := RX4) (T := TX4) (N := 12) hx hb hts hinX4 tyX4 tyX4_ok nmX4 hown hK hP (hD _ _) hS 0 mw_0 rfl 3 (by decide) (hts (.fieldLink RX4 48 "SquareGearsModel" "saves" "I") (by decide +kernel)) (fun _ h9 => h9) rfl (by decide +kernel) rfl rfl (Nat.le_of_ble_eq_true rfl) mw_I1 dX4_record_45 (fun H locs hP hS => ?_)
        refine lv_iconst (v := 0) hx hb dX4_record_48 (by decide) ?_
        refine lv_istore_n (lv' := [(1, .int 0), (0, .ref (ad 0))]) hx hb dX4_record_49 rfl hl (by decide) rfl (fun ls hl => ?_)
        suffices ih_50 : ∀ (fu : Nat) (i : Nat) (sb : Nat) (g : Nat → Int32) (H : Heap) (locs : List Loc) (ls : Array Slot), 25 - i < fu → (i ≤ 25) → (sb + 1 = min (sv + 1) 6) → (∀ k, k < i → g (25 * sb + k) = R 0 k) → (∀ j, j < 25 * sb → g j = (fun j => R 1 (j + 25 * (sv - sb))) j) → va_P D vwCl (mw T ad (upd I 1 (nI sb)) (updR R 1 g)) H →  va_S (cA 7 ad s.heap.size) s.heap H locs → lv_has ls 2 [(0, .ref (ad 0)), (1, .int (nI i))] → W p l e (headSpec wsX4_record ({ frames := 0, cells := 0, slots := 0, locals := 0 })).room s m ([.ref (ad 0)] : List Value).toArray below meth c H locs 0 0 (MQ below (va_Qv (fun (f : Nat → Int32) => recP (R 1) (R 0) sv f) (fun (f : Nat → Int32) t => va_P D vwCl (mw T ad (upd I 1 (nI (min (sv + 1) 6))) (updR R 1 f)) t.heap) (cA 7 ad s.heap.size)) ([.ref (ad 0)] : List Value).toArray s 0 0 (cA 7 ad s.heap.size)) (F0 m 50 ls []) from
          ih_50 _ 0 (sv - 1) f _ _ _ (Nat.lt_succ_self _) (by omega) (by omega) (fun k h => absurd h (Nat.not_lt_zero k)) (fun j h => by show f j = R 1 (j + 25 * (sv - (sv - 1))); rw [hA1 j (by omega), show sv - (sv - 1) = 1 by omega, Nat.mul_one, Nat.add_comm]) (by first | exact hP | exact m_selfI hsv (m_self hP)) hS (lv_sub hl [1, 0] rfl)
        intro fu
        induction fu with
        | zero => intro i sb g H locs ls hfu; exact absurd hfu (Nat.not_lt_zero _)
        | succ fu ih_50 =>
          intro i sb g H locs ls hfu hi hsb hB1 hB2 hP hS hl
          refine lv_iload_n hx hb dX4_record_50 rfl (lv_at hl 1 rfl) ?_
          refine lv_bipush (v := 25) hx hb dX4_record_51 (by decide) ?_
          refine lv_icmp_ge (tgt := 82) hx hb dX4_record_53 (by decide) (fun c_53 => ?_) (fun c_53 => ?_)
          · have c_53 : 25 ≤ i := (nI_leI (a := 25) (b := i) (by omega) (by omega)).mp c_53
            obtain rfl : i = 25 := by omega
            refine lv_aload_n hx hb dX4_record_82 rfl (lv_at hl 0 rfl) ?_
            refine lv_dup hx hb dX4_record_83 rfl ?_
            refine va_get (D := D) (ci := 4) (v := .int (nI sb)) (C := RX4) (T := TX4) (N := 12) hx hb hts hinX4 hown hK hP 0 mw_0 rfl 3 (by decide) (hts (.fieldLink RX4 48 "SquareGearsModel" "saves" "I") (by decide +kernel)) (fun _ h9 => h9) rfl dX4_record_84 ?_
            refine lv_iconst (v := 1) hx hb dX4_record_87 (by decide) ?_
            refine lv_iadd hx hb dX4_record_88 ?_
            refine cx_top (nI_add sb 1) ?_
            refine cx_put (D := D) (ci := 4) (v := (nI (sb + 1))) (ty := .int) (C := RX4) (T := TX4) (N := 12) hx hb hts hinX4 tyX4 tyX4_ok nmX4 hown hK hP (hD _ _) hS 0 mw_0 rfl 3 (by decide) (hts (.fieldLink RX4 48 "SquareGearsModel" "saves" "I") (by decide +kernel)) (fun _ h9 => h9) rfl (by decide +kernel) rfl rfl (Nat.le_of_ble_eq_true rfl) mw_I1 dX4_record_89 (fun H locs hP hS => ?_)
            exact W.vret hx hb hr (fun t ht hW => ⟨⟨g, rfl, ⟨sb, hsb, hB1, hB2⟩, by show va_P _ _ _ _; rw [ht]; exact (by rw [← hsb]; exact m_updI hP)⟩, hS.F ht⟩) hS.2.2 dX4_record_92
          · have c_53 : ¬ (25 ≤ i) := fun h => c_53 ((nI_leI (a := 25) (b := i) (by omega) (by omega)).mpr h)
            refine lv_aload_n hx hb dX4_record_56 rfl (lv_at hl 0 rfl) ?_
            refine va_get (D := D) (ci := 4) (v := .ref (ad 2)) (C := RX4) (T := TX4) (N := 12) hx hb hts hinX4 hown hK hP 0 mw_0 rfl 2 (by decide) (hts (.fieldLink RX4 13 "SquareGearsModel" "saved" "[I") (by decide +kernel)) (fun _ h9 => h9) rfl dX4_record_57 ?_
            refine lv_bipush (v := 25) hx hb dX4_record_60 (by decide) ?_
            refine lv_aload_n hx hb dX4_record_62 rfl (lv_at hl 0 rfl) ?_
            refine va_get (D := D) (ci := 4) (v := .int (nI sb)) (C := RX4) (T := TX4) (N := 12) hx hb hts hinX4 hown hK hP 0 mw_0 rfl 3 (by decide) (hts (.fieldLink RX4 48 "SquareGearsModel" "saves" "I") (by decide +kernel)) (fun _ h9 => h9) rfl dX4_record_63 ?_
            refine lv_imul hx hb dX4_record_66 ?_
            refine cx_top (pk_mul 25 sb) ?_
            refine lv_iload_n hx hb dX4_record_67 rfl (lv_at hl 1 rfl) ?_
            refine lv_iadd hx hb dX4_record_68 ?_
            refine cx_top (nI_add (25 * sb) i) ?_
            refine lv_aload_n hx hb dX4_record_69 rfl (lv_at hl 0 rfl) ?_
            refine va_get (D := D) (ci := 4) (v := .ref (ad 1)) (C := RX4) (T := TX4) (N := 12) hx hb hts hinX4 hown hK hP 0 mw_0 rfl 1 (by decide) (hts (.fieldLink RX4 7 "SquareGearsModel" "z" "[I") (by decide +kernel)) (fun _ h9 => h9) rfl dX4_record_70 ?_
            refine lv_iload_n hx hb dX4_record_73 rfl (lv_at hl 1 rfl) ?_
            refine cx_iald (k := i) hx hb hK hP 1 1 mw_1 rfl (by omega) (by decide) dX4_record_74 ?_
            refine cx_iast (k := ((25 * sb) + i)) hx hb hK hP (hD _ _) hS 2 1 mw_2 rfl (by omega) (by decide) mw_R1 dX4_record_75 (fun H locs hP hS => ?_)
            refine lv_iinc (k := 1) (v := (nI (i + 1))) (lv' := [(1, .int (nI (i + 1))), (0, .ref (ad 0))]) hx hb dX4_record_76 hl rfl (nI_add i 1) (by decide) rfl (fun ls hl => ?_)
            refine lv_goto (tgt := 50) hx hb dX4_record_79 (by decide) ?_
            exact ih_50 (i + 1) sb (upd g ((25 * sb) + i) ((R 0) i)) _ _ _ (by omega) (by omega) (hsb) (ru_1 hB1 rfl) (ru_2 hB2) (m_upd hP) hS (lv_sub hl [1, 0] rfl)
      · have c_14 : ¬ (125 ≤ i) := fun h => c_14 ((nI_leI (a := 125) (b := i) (by omega) (by omega)).mpr h)
        refine lv_aload_n hx hb dX4_record_17 rfl (lv_at hl 0 rfl) ?_
        refine va_get (D := D) (ci := 4) (v := .ref (ad 2)) (C := RX4) (T := TX4) (N := 12) hx hb hts hinX4 hown hK hP 0 mw_0 rfl 2 (by decide) (hts (.fieldLink RX4 13 "SquareGearsModel" "saved" "[I") (by decide +kernel)) (fun _ h9 => h9) rfl dX4_record_18 ?_
        refine lv_iload_n hx hb dX4_record_21 rfl (lv_at hl 1 rfl) ?_
        refine lv_aload_n hx hb dX4_record_22 rfl (lv_at hl 0 rfl) ?_
        refine va_get (D := D) (ci := 4) (v := .ref (ad 2)) (C := RX4) (T := TX4) (N := 12) hx hb hts hinX4 hown hK hP 0 mw_0 rfl 2 (by decide) (hts (.fieldLink RX4 13 "SquareGearsModel" "saved" "[I") (by decide +kernel)) (fun _ h9 => h9) rfl dX4_record_23 ?_
        refine lv_bipush (v := 25) hx hb dX4_record_26 (by decide) ?_
        refine lv_iload_n hx hb dX4_record_28 rfl (lv_at hl 1 rfl) ?_
        refine lv_iadd hx hb dX4_record_29 ?_
        refine cx_top (nI_add 25 i) ?_
        refine cx_iald (k := (25 + i)) hx hb hK hP 2 1 mw_2 rfl (by omega) (by decide) dX4_record_30 ?_
        refine cx_iast (k := i) hx hb hK hP (hD _ _) hS 2 1 mw_2 rfl (by omega) (by decide) mw_R1 dX4_record_31 (fun H locs hP hS => ?_)
        refine lv_iinc (k := 1) (v := (nI (i + 1))) (lv' := [(1, .int (nI (i + 1))), (0, .ref (ad 0))]) hx hb dX4_record_32 hl rfl (nI_add i 1) (by decide) rfl (fun ls hl => ?_)
        refine lv_goto (tgt := 11) hx hb dX4_record_35 (by decide) ?_
        exact ih_11 (i + 1) (upd f i (f (25 + i))) _ _ _ (by omega) (by omega) (up_at hA1 (hA2 _ (by omega))) (un_up hA2) (m_upd hP) hS (lv_sub hl [1, 0] rfl)
set_option maxHeartbeats 4000000 in
set_option maxRecDepth 100000 in
theorem c_X4_change (l : Launch) (D : va_G) (T : Nat → ClassId) (ad : Nat → Nat) (I : Nat → Int32) (R : Nat → Nat → Int32) (sz : Nat) (sv : Nat) (k : Nat) (x : Int32) (hAD : AD 7 ad) (hsv6 : sv ≤ 6) (hsv : I 1 = nI sv) (hk25 : k < 25) : Met l yX4_change wsX4_change ({ frames := 1, cells := 0, slots := 0, locals := 21 }) (va_Pc [.ref (ad 0), .int (nI k), .int x] (MB D T ad I R sz)) (va_Qi (fun r (f : Nat → Int32) => r = (R 0 k) ∧ recP (R 1) (R 0) sv f) (fun (f : Nat → Int32) t => va_P D vwCl (mw T ad (upd I 1 (nI (min (sv + 1) 6))) (updR (updR R 1 f) 0 (upd (R 0) k x))) t.heap) (cA 7 ad sz)) 0 0 (cA 7 ad sz) := by
  refine Met.ofW (cc := cX4_change) (maxL := 4) (ret := (some .int)) (by decide) rfl ?_
  intro p e s m args_ below meth c s₁ B hml hv
  obtain ⟨rfl, hsz, hP, hK⟩ := hv
  have hx := B.exec
  have hb := B.bytes
  have hr := B.returns
  have hts := atoms_spec (ws := wsX4_change) B.pre
  have hown : s.vm.findClass RX4 = some m.cls := findClass_of_methodNamed B.named
  have hlocks := B.notSynchronized
  have hinX4 : ∀ w ∈ u_ws RX4 TX4 12, w ∈ wsX4_change := by decide +kernel
  subst hsz
  have hS : va_S (cA 7 ad s.heap.size) s.heap s.heap [] := va_S.rf
  have hD : ∀ I R, va_D (cA 7 ad s.heap.size) (mw T ad I R) := fun I R => mw_D hAD (fun k hk => cA_in hk)
  have hl := lv_entry ([.ref (ad 0), .int (nI k), .int x]) (n := 4) (Nat.le_of_ble_eq_true rfl)
  rw [lg_entry_eq]
  generalize (lg_sl ([.ref (ad 0), .int (nI k), .int x]) ++ List.replicate (4 - (lg_sl ([.ref (ad 0), .int (nI k), .int x])).length) Slot.unset).toArray = ls at hl ⊢
  have hl : lv_has ls 4 [(0, .ref (ad 0)), (1, .int (nI k)), (2, .int x)] := hl
  refine lv_aload_n hx hb dX4_change_0 rfl (lv_at hl 0 rfl) ?_
  refine cx_wv (va_runV (As := []) (rest := []) ⟨hx, hb, hml, hown, hts⟩ (c_X4_record l D T ad I R _ sv (hAD) (hsv6) (hsv)) (cwV 0 hts gX4_change_X4_record rfl rfl rfl (by decide +kernel) ⟨Nat.le_of_ble_eq_true rfl, Nat.le_of_ble_eq_true rfl⟩) ⟨MB.blind, va_recv hK hP (ci := 4) (q0 := 0) rfl mw_0, (MB.pre hP hK rfl)⟩ rfl rfl hl.1 rfl (lv_room (Nat.le_of_ble_eq_true rfl)) dX4_change_1 ⟨Nat.le_of_ble_eq_true rfl, Nat.le_of_ble_eq_true rfl⟩) hS (cA_le hS.1) (cA_le hS.1) (fun u_1 H locs hu_1 hP hkk hS => ?_)
  refine lv_aload_n hx hb dX4_change_4 rfl (lv_at hl 0 rfl) ?_
  refine va_get (D := D) (ci := 4) (v := .ref (ad 1)) (C := RX4) (T := TX4) (N := 12) hx hb hts hinX4 hown hK hP 0 mw_0 rfl 1 (by decide) (hts (.fieldLink RX4 7 "SquareGearsModel" "z" "[I") (by decide +kernel)) (fun _ h9 => h9) rfl dX4_change_5 ?_
  refine lv_iload_n hx hb dX4_change_8 rfl (lv_at hl 1 rfl) ?_
  refine cx_iald (k := k) hx hb hK hP 1 1 mw_1 rfl (by omega) (by decide) dX4_change_9 ?_
  refine lv_istore_n (lv' := [(3, .int ((R 0) k)), (0, .ref (ad 0)), (1, .int (nI k)), (2, .int x)]) hx hb dX4_change_10 rfl hl (by decide) rfl (fun ls hl => ?_)
  refine lv_aload_n hx hb dX4_change_11 rfl (lv_at hl 1 rfl) ?_
  refine va_get (D := D) (ci := 4) (v := .ref (ad 1)) (C := RX4) (T := TX4) (N := 12) hx hb hts hinX4 hown hK hP 0 mw_0 rfl 1 (by decide) (hts (.fieldLink RX4 7 "SquareGearsModel" "z" "[I") (by decide +kernel)) (fun _ h9 => h9) rfl dX4_change_12 ?_
  refine lv_iload_n hx hb dX4_change_15 rfl (lv_at hl 2 rfl) ?_
  refine lv_iload_n hx hb dX4_change_16 rfl (lv_at hl 3 rfl) ?_
  refine cx_iast (k := k) hx hb hK hP (hD _ _) hS 1 1 mw_1 rfl (by omega) (by decide) mw_R0 dX4_change_17 (fun H locs hP hS => ?_)
  refine lv_iload_n hx hb dX4_change_18 rfl (lv_at hl 0 rfl) ?_
  exact W.iret (v := ((R 0) k)) hx hb hr (fun t ht hW => ⟨⟨((R 0) k), u_1, rfl, ⟨rfl, hu_1⟩, by show va_P _ _ _ _; rw [ht]; exact hP⟩, hS.F ht⟩) hS.2.2 dX4_change_19
set_option maxHeartbeats 4000000 in
set_option maxRecDepth 100000 in
theorem c_X4_set (l : Launch) (D : va_G) (T : Nat → ClassId) (ad : Nat → Nat) (I : Nat → Int32) (R : Nat → Nat → Int32) (sz : Nat) (sv : Nat) (k : Nat) (x : Int32) (hAD : AD 7 ad) (hsv6 : sv ≤ 6) (hsv : I 1 = nI sv) (hk : k < 8) (hx9 : outI x (-99) 99 = 0) : Met l yX4_set wsX4_set ({ frames := 2, cells := 0, slots := 0, locals := 44 }) (va_Pc [.ref (ad 0), .int (nI k), .int x] (MB D T ad I R sz)) (va_Qi (fun r (f : Nat → Int32) => r = (R 0 k) ∧ recP (R 1) (R 0) sv f) (fun (f : Nat → Int32) t => va_P D vwCl (mw T ad (upd (upd I 0 0) 1 (nI (min (sv + 1) 6))) (updR (updR R 1 f) 0 (upd (R 0) k x))) t.heap) (cA 7 ad sz)) 0 0 (cA 7 ad sz) := by
  refine Met.ofW (cc := cX4_set) (maxL := 3) (ret := (some .int)) (by decide) rfl ?_
  intro p e s m args_ below meth c s₁ B hml hv
  obtain ⟨rfl, hsz, hP, hK⟩ := hv
  have hx := B.exec
  have hb := B.bytes
  have hr := B.returns
  have hts := atoms_spec (ws := wsX4_set) B.pre
  have hown : s.vm.findClass RX4 = some m.cls := findClass_of_methodNamed B.named
  have hlocks := B.notSynchronized
  have hinX4 : ∀ w ∈ u_ws RX4 TX4 12, w ∈ wsX4_set := by decide +kernel
  subst hsz
  have hS : va_S (cA 7 ad s.heap.size) s.heap s.heap [] := va_S.rf
  have hD : ∀ I R, va_D (cA 7 ad s.heap.size) (mw T ad I R) := fun I R => mw_D hAD (fun k hk => cA_in hk)
  have hl := lv_entry ([.ref (ad 0), .int (nI k), .int x]) (n := 3) (Nat.le_of_ble_eq_true rfl)
  rw [lg_entry_eq]
  generalize (lg_sl ([.ref (ad 0), .int (nI k), .int x]) ++ List.replicate (3 - (lg_sl ([.ref (ad 0), .int (nI k), .int x])).length) Slot.unset).toArray = ls at hl ⊢
  have hl : lv_has ls 3 [(0, .ref (ad 0)), (1, .int (nI k)), (2, .int x)] := hl
  refine lv_aload_n hx hb dX4_set_0 rfl (lv_at hl 0 rfl) ?_
  refine lv_iload_n hx hb dX4_set_1 rfl (lv_at hl 1 rfl) ?_
  refine cx_ri (va_runS (As := [.int (nI k)]) (rest := [.ref (ad 0)]) ⟨hx, hb, hml, hown, hts⟩ (c_X4_isOne l  (nI k)) (va_cwS 1 hts gX4_set_X4_isOne rfl rfl rfl (by decide +kernel) ⟨Nat.le_of_ble_eq_true rfl, Nat.le_of_ble_eq_true rfl⟩) ⟨pc_blind, (fun U hU hW => ⟨rfl, trivial⟩)⟩ rfl rfl hl.1 rfl (lv_room (Nat.le_of_ble_eq_true rfl)) dX4_set_2 ⟨Nat.le_of_ble_eq_true rfl, Nat.le_of_ble_eq_true rfl⟩) hS hP (fun H locs hP hS => ?_)
  refine cx_top (show (inI (nI k) 0 7) = 1 from in_of0 (out_8 hk)) ?_
  refine lv_if_ne (tgt := 12) hx hb dX4_set_5 (by decide) (fun c_5 => ?_) (fun c_5 => absurd c_5 (by decide))
  refine lv_iload_n hx hb dX4_set_12 rfl (lv_at hl 2 rfl) ?_
  refine lv_bipush (v := (-99)) hx hb dX4_set_13 (by decide) ?_
  refine lv_bipush (v := 99) hx hb dX4_set_15 (by decide) ?_
  refine cx_ri (va_runS (As := [.int x, .int (-99), .int 99]) (rest := [.ref (ad 0)]) ⟨hx, hb, hml, hown, hts⟩ (c_X4_in l  x (-99) 99) (va_cwS 3 hts gX4_set_X4_in rfl rfl rfl (by decide +kernel) ⟨Nat.le_of_ble_eq_true rfl, Nat.le_of_ble_eq_true rfl⟩) ⟨pc_blind, (fun U hU hW => ⟨rfl, trivial⟩)⟩ rfl rfl hl.1 rfl (lv_room (Nat.le_of_ble_eq_true rfl)) dX4_set_17 ⟨Nat.le_of_ble_eq_true rfl, Nat.le_of_ble_eq_true rfl⟩) hS hP (fun H locs hP hS => ?_)
  refine cx_top (show (inI x (-99) 99) = 1 from in_of0 hx9) ?_
  refine lv_if_eq (tgt := 27) hx hb dX4_set_20 (by decide) (fun c_20 => absurd c_20 (by decide)) (fun c_20 => ?_)
  refine lv_iconst (v := 0) hx hb dX4_set_23 (by decide) ?_
  refine lv_goto (tgt := 28) hx hb dX4_set_24 (by decide) ?_
  refine cx_put (D := D) (ci := 4) (v := 0) (ty := .int) (C := RX4) (T := TX4) (N := 12) hx hb hts hinX4 tyX4 tyX4_ok nmX4 hown hK hP (hD _ _) hS 0 mw_0 rfl 0 (by decide) (hts (.fieldLink RX4 29 "SquareGearsModel" "thrown" "I") (by decide +kernel)) (fun _ h9 => h9) rfl (by decide +kernel) rfl rfl (Nat.le_of_ble_eq_true rfl) mw_I0 dX4_set_28 (fun H locs hP hS => ?_)
  refine lv_aload_n hx hb dX4_set_31 rfl (lv_at hl 0 rfl) ?_
  refine va_get (D := D) (ci := 4) (v := .int 0) (C := RX4) (T := TX4) (N := 12) hx hb hts hinX4 hown hK hP 0 mw_0 rfl 0 (by decide) (hts (.fieldLink RX4 29 "SquareGearsModel" "thrown" "I") (by decide +kernel)) (fun _ h9 => h9) rfl dX4_set_32 ?_
  refine lv_if_le (tgt := 42) hx hb dX4_set_35 (by decide) (fun c_35 => ?_) (fun c_35 => absurd c_35 (by decide))
  refine lv_aload_n hx hb dX4_set_42 rfl (lv_at hl 0 rfl) ?_
  refine lv_iload_n hx hb dX4_set_43 rfl (lv_at hl 1 rfl) ?_
  refine lv_iload_n hx hb dX4_set_44 rfl (lv_at hl 2 rfl) ?_
  refine cx_wi (va_runV (As := [.int (nI k), .int x]) (rest := []) ⟨hx, hb, hml, hown, hts⟩ (c_X4_change l D T ad (upd I 0 0) R _ sv k x (hAD) (hsv6) (hsv) (by omega)) (cwV 2 hts gX4_set_X4_change rfl rfl rfl (by decide +kernel) ⟨Nat.le_of_ble_eq_true rfl, Nat.le_of_ble_eq_true rfl⟩) ⟨MB.blind, va_recv hK hP (ci := 4) (q0 := 0) rfl mw_0, (MB.pre hP hK rfl)⟩ rfl rfl hl.1 rfl (lv_room (Nat.le_of_ble_eq_true rfl)) dX4_set_45 ⟨Nat.le_of_ble_eq_true rfl, Nat.le_of_ble_eq_true rfl⟩) hS (cA_le hS.1) (cA_le hS.1) (fun u_45 H locs hu_45 hP hkk hS => ?_)
  exact W.iret (v := ((R 0) k)) hx hb hr (fun t ht hW => ⟨⟨((R 0) k), u_45, rfl, ⟨rfl, hu_45⟩, by show va_P _ _ _ _; rw [ht]; exact hP⟩, hS.F ht⟩) hS.2.2 dX4_set_48
set_option maxHeartbeats 4000000 in
set_option maxRecDepth 100000 in
theorem c_X4_point (l : Launch) (D : va_G) (T : Nat → ClassId) (ad : Nat → Nat) (I : Nat → Int32) (R : Nat → Nat → Int32) (sz : Nat) (sv : Nat) (k : Nat) (x : Int32) (hAD : AD 7 ad) (hsv6 : sv ≤ 6) (hsv : I 1 = nI sv) (hk : k < 8) (hx9 : outI x (-9999) 9999 = 0) : Met l yX4_point wsX4_point ({ frames := 2, cells := 0, slots := 0, locals := 44 }) (va_Pc [.ref (ad 0), .int (nI k), .int x] (MB D T ad I R sz)) (va_Qi (fun r (f : Nat → Int32) => r = (R 0 (16 + k)) ∧ recP (R 1) (R 0) sv f) (fun (f : Nat → Int32) t => va_P D vwCl (mw T ad (upd (upd I 0 0) 1 (nI (min (sv + 1) 6))) (updR (updR R 1 f) 0 (upd (R 0) (16 + k) x))) t.heap) (cA 7 ad sz)) 0 0 (cA 7 ad sz) := by
  refine Met.ofW (cc := cX4_point) (maxL := 3) (ret := (some .int)) (by decide) rfl ?_
  intro p e s m args_ below meth c s₁ B hml hv
  obtain ⟨rfl, hsz, hP, hK⟩ := hv
  have hx := B.exec
  have hb := B.bytes
  have hr := B.returns
  have hts := atoms_spec (ws := wsX4_point) B.pre
  have hown : s.vm.findClass RX4 = some m.cls := findClass_of_methodNamed B.named
  have hlocks := B.notSynchronized
  have hinX4 : ∀ w ∈ u_ws RX4 TX4 12, w ∈ wsX4_point := by decide +kernel
  subst hsz
  have hS : va_S (cA 7 ad s.heap.size) s.heap s.heap [] := va_S.rf
  have hD : ∀ I R, va_D (cA 7 ad s.heap.size) (mw T ad I R) := fun I R => mw_D hAD (fun k hk => cA_in hk)
  have hl := lv_entry ([.ref (ad 0), .int (nI k), .int x]) (n := 3) (Nat.le_of_ble_eq_true rfl)
  rw [lg_entry_eq]
  generalize (lg_sl ([.ref (ad 0), .int (nI k), .int x]) ++ List.replicate (3 - (lg_sl ([.ref (ad 0), .int (nI k), .int x])).length) Slot.unset).toArray = ls at hl ⊢
  have hl : lv_has ls 3 [(0, .ref (ad 0)), (1, .int (nI k)), (2, .int x)] := hl
  refine lv_aload_n hx hb dX4_point_0 rfl (lv_at hl 0 rfl) ?_
  refine lv_iload_n hx hb dX4_point_1 rfl (lv_at hl 1 rfl) ?_
  refine cx_ri (va_runS (As := [.int (nI k)]) (rest := [.ref (ad 0)]) ⟨hx, hb, hml, hown, hts⟩ (c_X4_isOne l  (nI k)) (va_cwS 1 hts gX4_point_X4_isOne rfl rfl rfl (by decide +kernel) ⟨Nat.le_of_ble_eq_true rfl, Nat.le_of_ble_eq_true rfl⟩) ⟨pc_blind, (fun U hU hW => ⟨rfl, trivial⟩)⟩ rfl rfl hl.1 rfl (lv_room (Nat.le_of_ble_eq_true rfl)) dX4_point_2 ⟨Nat.le_of_ble_eq_true rfl, Nat.le_of_ble_eq_true rfl⟩) hS hP (fun H locs hP hS => ?_)
  refine cx_top (show (inI (nI k) 0 7) = 1 from in_of0 (out_8 hk)) ?_
  refine lv_if_ne (tgt := 12) hx hb dX4_point_5 (by decide) (fun c_5 => ?_) (fun c_5 => absurd c_5 (by decide))
  refine lv_iload_n hx hb dX4_point_12 rfl (lv_at hl 2 rfl) ?_
  refine lv_sipush (v := (-9999)) hx hb dX4_point_13 (by decide) ?_
  refine lv_sipush (v := 9999) hx hb dX4_point_16 (by decide) ?_
  refine cx_ri (va_runS (As := [.int x, .int (-9999), .int 9999]) (rest := [.ref (ad 0)]) ⟨hx, hb, hml, hown, hts⟩ (c_X4_in l  x (-9999) 9999) (va_cwS 3 hts gX4_point_X4_in rfl rfl rfl (by decide +kernel) ⟨Nat.le_of_ble_eq_true rfl, Nat.le_of_ble_eq_true rfl⟩) ⟨pc_blind, (fun U hU hW => ⟨rfl, trivial⟩)⟩ rfl rfl hl.1 rfl (lv_room (Nat.le_of_ble_eq_true rfl)) dX4_point_19 ⟨Nat.le_of_ble_eq_true rfl, Nat.le_of_ble_eq_true rfl⟩) hS hP (fun H locs hP hS => ?_)
  refine cx_top (show (inI x (-9999) 9999) = 1 from in_of0 hx9) ?_
  refine lv_if_eq (tgt := 29) hx hb dX4_point_22 (by decide) (fun c_22 => absurd c_22 (by decide)) (fun c_22 => ?_)
  refine lv_iconst (v := 0) hx hb dX4_point_25 (by decide) ?_
  refine lv_goto (tgt := 30) hx hb dX4_point_26 (by decide) ?_
  refine cx_put (D := D) (ci := 4) (v := 0) (ty := .int) (C := RX4) (T := TX4) (N := 12) hx hb hts hinX4 tyX4 tyX4_ok nmX4 hown hK hP (hD _ _) hS 0 mw_0 rfl 0 (by decide) (hts (.fieldLink RX4 29 "SquareGearsModel" "thrown" "I") (by decide +kernel)) (fun _ h9 => h9) rfl (by decide +kernel) rfl rfl (Nat.le_of_ble_eq_true rfl) mw_I0 dX4_point_30 (fun H locs hP hS => ?_)
  refine lv_aload_n hx hb dX4_point_33 rfl (lv_at hl 0 rfl) ?_
  refine va_get (D := D) (ci := 4) (v := .int 0) (C := RX4) (T := TX4) (N := 12) hx hb hts hinX4 hown hK hP 0 mw_0 rfl 0 (by decide) (hts (.fieldLink RX4 29 "SquareGearsModel" "thrown" "I") (by decide +kernel)) (fun _ h9 => h9) rfl dX4_point_34 ?_
  refine lv_if_le (tgt := 44) hx hb dX4_point_37 (by decide) (fun c_37 => ?_) (fun c_37 => absurd c_37 (by decide))
  refine lv_aload_n hx hb dX4_point_44 rfl (lv_at hl 0 rfl) ?_
  refine lv_bipush (v := 16) hx hb dX4_point_45 (by decide) ?_
  refine lv_iload_n hx hb dX4_point_47 rfl (lv_at hl 1 rfl) ?_
  refine lv_iadd hx hb dX4_point_48 ?_
  refine cx_top (nI_add 16 k) ?_
  refine lv_iload_n hx hb dX4_point_49 rfl (lv_at hl 2 rfl) ?_
  refine cx_wi (va_runV (As := [.int (nI (16 + k)), .int x]) (rest := []) ⟨hx, hb, hml, hown, hts⟩ (c_X4_change l D T ad (upd I 0 0) R _ sv (16 + k) x (hAD) (hsv6) (hsv) (by omega)) (cwV 2 hts gX4_point_X4_change rfl rfl rfl (by decide +kernel) ⟨Nat.le_of_ble_eq_true rfl, Nat.le_of_ble_eq_true rfl⟩) ⟨MB.blind, va_recv hK hP (ci := 4) (q0 := 0) rfl mw_0, (MB.pre hP hK rfl)⟩ rfl rfl hl.1 rfl (lv_room (Nat.le_of_ble_eq_true rfl)) dX4_point_50 ⟨Nat.le_of_ble_eq_true rfl, Nat.le_of_ble_eq_true rfl⟩) hS (cA_le hS.1) (cA_le hS.1) (fun u_50 H locs hu_50 hP hkk hS => ?_)
  exact W.iret (v := ((R 0) (16 + k))) hx hb hr (fun t ht hW => ⟨⟨((R 0) (16 + k)), u_50, rfl, ⟨rfl, hu_50⟩, by show va_P _ _ _ _; rw [ht]; exact hP⟩, hS.F ht⟩) hS.2.2 dX4_point_53
set_option maxHeartbeats 4000000 in
set_option maxRecDepth 100000 in
theorem c_X4_lose (l : Launch) (D : va_G) (T : Nat → ClassId) (ad : Nat → Nat) (I : Nat → Int32) (R : Nat → Nat → Int32) (sz : Nat) (sv : Nat) (k : Nat) (hAD : AD 7 ad) (hsv6 : sv ≤ 6) (hsv : I 1 = nI sv) (hk : k < 8) : Met l yX4_lose wsX4_lose ({ frames := 2, cells := 0, slots := 0, locals := 44 }) (va_Pc [.ref (ad 0), .int (nI k)] (MB D T ad I R sz)) (va_Qi (fun r (f : Nat → Int32) => r = (1 - R 0 (8 + k)) ∧ recP (R 1) (R 0) sv f) (fun (f : Nat → Int32) t => va_P D vwCl (mw T ad (upd (upd I 0 0) 1 (nI (min (sv + 1) 6))) (updR (updR R 1 f) 0 (upd (R 0) (8 + k) (1 - R 0 (8 + k))))) t.heap) (cA 7 ad sz)) 0 0 (cA 7 ad sz) := by
  refine Met.ofW (cc := cX4_lose) (maxL := 2) (ret := (some .int)) (by decide) rfl ?_
  intro p e s m args_ below meth c s₁ B hml hv
  obtain ⟨rfl, hsz, hP, hK⟩ := hv
  have hx := B.exec
  have hb := B.bytes
  have hr := B.returns
  have hts := atoms_spec (ws := wsX4_lose) B.pre
  have hown : s.vm.findClass RX4 = some m.cls := findClass_of_methodNamed B.named
  have hlocks := B.notSynchronized
  have hinX4 : ∀ w ∈ u_ws RX4 TX4 12, w ∈ wsX4_lose := by decide +kernel
  subst hsz
  have hS : va_S (cA 7 ad s.heap.size) s.heap s.heap [] := va_S.rf
  have hD : ∀ I R, va_D (cA 7 ad s.heap.size) (mw T ad I R) := fun I R => mw_D hAD (fun k hk => cA_in hk)
  have hl := lv_entry ([.ref (ad 0), .int (nI k)]) (n := 2) (Nat.le_of_ble_eq_true rfl)
  rw [lg_entry_eq]
  generalize (lg_sl ([.ref (ad 0), .int (nI k)]) ++ List.replicate (2 - (lg_sl ([.ref (ad 0), .int (nI k)])).length) Slot.unset).toArray = ls at hl ⊢
  have hl : lv_has ls 2 [(0, .ref (ad 0)), (1, .int (nI k))] := hl
  refine lv_aload_n hx hb dX4_lose_0 rfl (lv_at hl 0 rfl) ?_
  refine lv_iload_n hx hb dX4_lose_1 rfl (lv_at hl 1 rfl) ?_
  refine cx_ri (va_runS (As := [.int (nI k)]) (rest := [.ref (ad 0)]) ⟨hx, hb, hml, hown, hts⟩ (c_X4_isOne l  (nI k)) (va_cwS 1 hts gX4_lose_X4_isOne rfl rfl rfl (by decide +kernel) ⟨Nat.le_of_ble_eq_true rfl, Nat.le_of_ble_eq_true rfl⟩) ⟨pc_blind, (fun U hU hW => ⟨rfl, trivial⟩)⟩ rfl rfl hl.1 rfl (lv_room (Nat.le_of_ble_eq_true rfl)) dX4_lose_2 ⟨Nat.le_of_ble_eq_true rfl, Nat.le_of_ble_eq_true rfl⟩) hS hP (fun H locs hP hS => ?_)
  refine cx_top (show (inI (nI k) 0 7) = 1 from in_of0 (out_8 hk)) ?_
  refine lv_if_eq (tgt := 12) hx hb dX4_lose_5 (by decide) (fun c_5 => absurd c_5 (by decide)) (fun c_5 => ?_)
  refine lv_iconst (v := 0) hx hb dX4_lose_8 (by decide) ?_
  refine lv_goto (tgt := 13) hx hb dX4_lose_9 (by decide) ?_
  refine cx_put (D := D) (ci := 4) (v := 0) (ty := .int) (C := RX4) (T := TX4) (N := 12) hx hb hts hinX4 tyX4 tyX4_ok nmX4 hown hK hP (hD _ _) hS 0 mw_0 rfl 0 (by decide) (hts (.fieldLink RX4 29 "SquareGearsModel" "thrown" "I") (by decide +kernel)) (fun _ h9 => h9) rfl (by decide +kernel) rfl rfl (Nat.le_of_ble_eq_true rfl) mw_I0 dX4_lose_13 (fun H locs hP hS => ?_)
  refine lv_aload_n hx hb dX4_lose_16 rfl (lv_at hl 0 rfl) ?_
  refine va_get (D := D) (ci := 4) (v := .int 0) (C := RX4) (T := TX4) (N := 12) hx hb hts hinX4 hown hK hP 0 mw_0 rfl 0 (by decide) (hts (.fieldLink RX4 29 "SquareGearsModel" "thrown" "I") (by decide +kernel)) (fun _ h9 => h9) rfl dX4_lose_17 ?_
  refine lv_if_le (tgt := 25) hx hb dX4_lose_20 (by decide) (fun c_20 => ?_) (fun c_20 => absurd c_20 (by decide))
  refine lv_aload_n hx hb dX4_lose_25 rfl (lv_at hl 0 rfl) ?_
  refine lv_bipush (v := 8) hx hb dX4_lose_26 (by decide) ?_
  refine lv_iload_n hx hb dX4_lose_28 rfl (lv_at hl 1 rfl) ?_
  refine lv_iadd hx hb dX4_lose_29 ?_
  refine cx_top (nI_add 8 k) ?_
  refine lv_iconst (v := 1) hx hb dX4_lose_30 (by decide) ?_
  refine lv_aload_n hx hb dX4_lose_31 rfl (lv_at hl 0 rfl) ?_
  refine va_get (D := D) (ci := 4) (v := .ref (ad 1)) (C := RX4) (T := TX4) (N := 12) hx hb hts hinX4 hown hK hP 0 mw_0 rfl 1 (by decide) (hts (.fieldLink RX4 7 "SquareGearsModel" "z" "[I") (by decide +kernel)) (fun _ h9 => h9) rfl dX4_lose_32 ?_
  refine lv_bipush (v := 8) hx hb dX4_lose_35 (by decide) ?_
  refine lv_iload_n hx hb dX4_lose_37 rfl (lv_at hl 1 rfl) ?_
  refine lv_iadd hx hb dX4_lose_38 ?_
  refine cx_top (nI_add 8 k) ?_
  refine cx_iald (k := (8 + k)) hx hb hK hP 1 1 mw_1 rfl (by omega) (by decide) dX4_lose_39 ?_
  refine lv_isub hx hb dX4_lose_40 ?_
  refine cx_wi (va_runV (As := [.int (nI (8 + k)), .int (1 - ((R 0) (8 + k)))]) (rest := []) ⟨hx, hb, hml, hown, hts⟩ (c_X4_change l D T ad (upd I 0 0) R _ sv (8 + k) (1 - ((R 0) (8 + k))) (hAD) (hsv6) (hsv) (by omega)) (cwV 2 hts gX4_lose_X4_change rfl rfl rfl (by decide +kernel) ⟨Nat.le_of_ble_eq_true rfl, Nat.le_of_ble_eq_true rfl⟩) ⟨MB.blind, va_recv hK hP (ci := 4) (q0 := 0) rfl mw_0, (MB.pre hP hK rfl)⟩ rfl rfl hl.1 rfl (lv_room (Nat.le_of_ble_eq_true rfl)) dX4_lose_41 ⟨Nat.le_of_ble_eq_true rfl, Nat.le_of_ble_eq_true rfl⟩) hS (cA_le hS.1) (cA_le hS.1) (fun u_41 H locs hu_41 hP hkk hS => ?_)
  refine lv_pop hx hb dX4_lose_44 rfl ?_
  refine lv_aload_n hx hb dX4_lose_45 rfl (lv_at hl 0 rfl) ?_
  refine va_get (D := D) (ci := 4) (v := .ref (ad 1)) (C := RX4) (T := TX4) (N := 12) hx hb hts hinX4 hown hK hP 0 mw_0 rfl 1 (by decide) (hts (.fieldLink RX4 7 "SquareGearsModel" "z" "[I") (by decide +kernel)) (fun _ h9 => h9) rfl dX4_lose_46 ?_
  refine lv_bipush (v := 8) hx hb dX4_lose_49 (by decide) ?_
  refine lv_iload_n hx hb dX4_lose_51 rfl (lv_at hl 1 rfl) ?_
  refine lv_iadd hx hb dX4_lose_52 ?_
  refine cx_top (nI_add 8 k) ?_
  refine cx_iald (k := (8 + k)) hx hb hK hP 1 1 mw_1 rfl (by omega) (by decide) dX4_lose_53 ?_
  refine cx_top (show ((upd ((R 0)) (8 + k) (1 - (((R 0)) (8 + k)))) (8 + k)) = (1 - R 0 (8 + k)) from by simp [updR, upd]) ?_
  exact W.iret (v := (1 - R 0 (8 + k))) hx hb hr (fun t ht hW => ⟨⟨(1 - R 0 (8 + k)), u_41, rfl, ⟨rfl, hu_41⟩, by show va_P _ _ _ _; rw [ht]; exact hP⟩, hS.F ht⟩) hS.2.2 dX4_lose_54
set_option maxHeartbeats 4000000 in
set_option maxRecDepth 100000 in
theorem c_X4_turn (l : Launch) (D : va_G) (T : Nat → ClassId) (ad : Nat → Nat) (I : Nat → Int32) (R : Nat → Nat → Int32) (sz : Nat) (sv : Nat) (b : Nat) (hAD : AD 7 ad) (hsv6 : sv ≤ 6) (hsv : I 1 = nI sv) (hb8 : b < 8) : Met l yX4_turn wsX4_turn ({ frames := 2, cells := 0, slots := 0, locals := 42 }) (va_Pc [.ref (ad 0), .int (nI b)] (MB D T ad I R sz)) (va_Qi (fun r (f : Nat → Int32) => r = (tuS (R 0) b 8) ∧ recP (R 1) (R 0) sv f) (fun (f : Nat → Int32) t => va_P D vwCl (mw T ad (upd (upd I 0 0) 1 (nI (min (sv + 1) 6))) (updR (updR R 1 f) 0 (tmF (R 0) b))) t.heap) (cA 7 ad sz)) 0 0 (cA 7 ad sz) := by
  refine Met.ofW (cc := cX4_turn) (maxL := 4) (ret := (some .int)) (by decide) rfl ?_
  intro p e s m args_ below meth c s₁ B hml hv
  obtain ⟨rfl, hsz, hP, hK⟩ := hv
  have hx := B.exec
  have hb := B.bytes
  have hr := B.returns
  have hts := atoms_spec (ws := wsX4_turn) B.pre
  have hown : s.vm.findClass RX4 = some m.cls := findClass_of_methodNamed B.named
  have hlocks := B.notSynchronized
  have hinX4 : ∀ w ∈ u_ws RX4 TX4 12, w ∈ wsX4_turn := by decide +kernel
  subst hsz
  have hS : va_S (cA 7 ad s.heap.size) s.heap s.heap [] := va_S.rf
  have hD : ∀ I R, va_D (cA 7 ad s.heap.size) (mw T ad I R) := fun I R => mw_D hAD (fun k hk => cA_in hk)
  have hl := lv_entry ([.ref (ad 0), .int (nI b)]) (n := 4) (Nat.le_of_ble_eq_true rfl)
  rw [lg_entry_eq]
  generalize (lg_sl ([.ref (ad 0), .int (nI b)]) ++ List.replicate (4 - (lg_sl ([.ref (ad 0), .int (nI b)])).length) Slot.unset).toArray = ls at hl ⊢
  have hl : lv_has ls 4 [(0, .ref (ad 0)), (1, .int (nI b))] := hl
  refine lv_aload_n hx hb dX4_turn_0 rfl (lv_at hl 0 rfl) ?_
  refine lv_iload_n hx hb dX4_turn_1 rfl (lv_at hl 1 rfl) ?_
  refine cx_ri (va_runS (As := [.int (nI b)]) (rest := [.ref (ad 0)]) ⟨hx, hb, hml, hown, hts⟩ (c_X4_isOne l  (nI b)) (va_cwS 1 hts gX4_turn_X4_isOne rfl rfl rfl (by decide +kernel) ⟨Nat.le_of_ble_eq_true rfl, Nat.le_of_ble_eq_true rfl⟩) ⟨pc_blind, (fun U hU hW => ⟨rfl, trivial⟩)⟩ rfl rfl hl.1 rfl (lv_room (Nat.le_of_ble_eq_true rfl)) dX4_turn_2 ⟨Nat.le_of_ble_eq_true rfl, Nat.le_of_ble_eq_true rfl⟩) hS hP (fun H locs hP hS => ?_)
  refine cx_top (show (inI (nI b) 0 7) = 1 from in_of0 (out_8 hb8)) ?_
  refine lv_if_eq (tgt := 12) hx hb dX4_turn_5 (by decide) (fun c_5 => absurd c_5 (by decide)) (fun c_5 => ?_)
  refine lv_iconst (v := 0) hx hb dX4_turn_8 (by decide) ?_
  refine lv_goto (tgt := 13) hx hb dX4_turn_9 (by decide) ?_
  refine cx_put (D := D) (ci := 4) (v := 0) (ty := .int) (C := RX4) (T := TX4) (N := 12) hx hb hts hinX4 tyX4 tyX4_ok nmX4 hown hK hP (hD _ _) hS 0 mw_0 rfl 0 (by decide) (hts (.fieldLink RX4 29 "SquareGearsModel" "thrown" "I") (by decide +kernel)) (fun _ h9 => h9) rfl (by decide +kernel) rfl rfl (Nat.le_of_ble_eq_true rfl) mw_I0 dX4_turn_13 (fun H locs hP hS => ?_)
  refine lv_aload_n hx hb dX4_turn_16 rfl (lv_at hl 0 rfl) ?_
  refine va_get (D := D) (ci := 4) (v := .int 0) (C := RX4) (T := TX4) (N := 12) hx hb hts hinX4 hown hK hP 0 mw_0 rfl 0 (by decide) (hts (.fieldLink RX4 29 "SquareGearsModel" "thrown" "I") (by decide +kernel)) (fun _ h9 => h9) rfl dX4_turn_17 ?_
  refine lv_if_le (tgt := 25) hx hb dX4_turn_20 (by decide) (fun c_20 => ?_) (fun c_20 => absurd c_20 (by decide))
  refine lv_aload_n hx hb dX4_turn_25 rfl (lv_at hl 0 rfl) ?_
  refine cx_wv (va_runV (As := []) (rest := []) ⟨hx, hb, hml, hown, hts⟩ (c_X4_record l D T ad (upd I 0 0) R _ sv (hAD) (hsv6) (hsv)) (cwV 0 hts gX4_turn_X4_record rfl rfl rfl (by decide +kernel) ⟨Nat.le_of_ble_eq_true rfl, Nat.le_of_ble_eq_true rfl⟩) ⟨MB.blind, va_recv hK hP (ci := 4) (q0 := 0) rfl mw_0, (MB.pre hP hK rfl)⟩ rfl rfl hl.1 rfl (lv_room (Nat.le_of_ble_eq_true rfl)) dX4_turn_26 ⟨Nat.le_of_ble_eq_true rfl, Nat.le_of_ble_eq_true rfl⟩) hS (cA_le hS.1) (cA_le hS.1) (fun u_26 H locs hu_26 hP hkk hS => ?_)
  refine lv_iconst (v := 0) hx hb dX4_turn_29 (by decide) ?_
  refine lv_istore_n (lv' := [(2, .int 0), (0, .ref (ad 0)), (1, .int (nI b))]) hx hb dX4_turn_30 rfl hl (by decide) rfl (fun ls hl => ?_)
  refine lv_iconst (v := 0) hx hb dX4_turn_31 (by decide) ?_
  refine lv_istore_n (lv' := [(3, .int 0), (2, .int 0), (0, .ref (ad 0)), (1, .int (nI b))]) hx hb dX4_turn_32 rfl hl (by decide) rfl (fun ls hl => ?_)
  suffices ih_33 : ∀ (fu : Nat) (i : Nat) (f : Nat → Int32) (sn : Int32) (H : Heap) (locs : List Loc) (ls : Array Slot), 8 - i < fu → (i ≤ 8) → (∀ j, j < i → f j = tmF (R 0) b j) → (∀ j, i ≤ j → f j = R 0 j) → (sn = tuS (R 0) b i) → va_P D vwCl (mw T ad (upd (upd I 0 0) 1 (nI (min (sv + 1) 6))) (updR (updR R 1 u_26) 0 f)) H →  va_S (cA 7 ad s.heap.size) s.heap H locs → lv_has ls 4 [(0, .ref (ad 0)), (1, .int (nI b)), (2, .int sn), (3, .int (nI i))] → W p l e (headSpec wsX4_turn ({ frames := 2, cells := 0, slots := 0, locals := 42 })).room s m ([.ref (ad 0), .int (nI b)] : List Value).toArray below meth c H locs 0 0 (MQ below (va_Qi (fun r (f : Nat → Int32) => r = (tuS (R 0) b 8) ∧ recP (R 1) (R 0) sv f) (fun (f : Nat → Int32) t => va_P D vwCl (mw T ad (upd (upd I 0 0) 1 (nI (min (sv + 1) 6))) (updR (updR R 1 f) 0 (tmF (R 0) b))) t.heap) (cA 7 ad s.heap.size)) ([.ref (ad 0), .int (nI b)] : List Value).toArray s 0 0 (cA 7 ad s.heap.size)) (F0 m 33 ls []) from
    ih_33 _ 0 (R 0) 0 _ _ _ (Nat.lt_succ_self _) (by omega) (fun j h => absurd h (Nat.not_lt_zero j)) (fun _ _ => rfl) (rfl) (m_self hP) hS (lv_sub hl [2, 3, 1, 0] rfl)
  intro fu
  induction fu with
  | zero => intro i f sn H locs ls hfu; exact absurd hfu (Nat.not_lt_zero _)
  | succ fu ih_33 =>
    intro i f sn H locs ls hfu hi hf1 hf2 hs hP hS hl
    refine lv_iload_n hx hb dX4_turn_33 rfl (lv_at hl 3 rfl) ?_
    refine lv_bipush (v := 8) hx hb dX4_turn_34 (by decide) ?_
    refine lv_icmp_ge (tgt := 84) hx hb dX4_turn_36 (by decide) (fun c_36 => ?_) (fun c_36 => ?_)
    · have c_36 : 8 ≤ i := (nI_leI (a := 8) (b := i) (by omega) (by omega)).mp c_36
      obtain rfl : i = 8 := by omega
      have hP := m_fin0 (g := tmF (R 0) b) hP (tm_fin hf1 hf2)
      refine lv_iload_n hx hb dX4_turn_84 rfl (lv_at hl 2 rfl) ?_
      exact W.iret (v := sn) hx hb hr (fun t ht hW => ⟨⟨sn, u_26, rfl, ⟨hs, hu_26⟩, by show va_P _ _ _ _; rw [ht]; exact hP⟩, hS.F ht⟩) hS.2.2 dX4_turn_85
    · have c_36 : ¬ (8 ≤ i) := fun h => c_36 ((nI_leI (a := 8) (b := i) (by omega) (by omega)).mpr h)
      refine lv_iload_n hx hb dX4_turn_39 rfl (lv_at hl 2 rfl) ?_
      refine lv_aload_n hx hb dX4_turn_40 rfl (lv_at hl 0 rfl) ?_
      refine va_get (D := D) (ci := 4) (v := .ref (ad 1)) (C := RX4) (T := TX4) (N := 12) hx hb hts hinX4 hown hK hP 0 mw_0 rfl 1 (by decide) (hts (.fieldLink RX4 7 "SquareGearsModel" "z" "[I") (by decide +kernel)) (fun _ h9 => h9) rfl dX4_turn_41 ?_
      refine lv_iload_n hx hb dX4_turn_44 rfl (lv_at hl 3 rfl) ?_
      refine cx_iald (k := i) hx hb hK hP 1 1 mw_1 rfl (by omega) (by decide) dX4_turn_45 ?_
      refine lv_if_eq (tgt := 61) hx hb dX4_turn_46 (by decide) (fun c_46 => ?_) (fun c_46 => ?_)
      · refine lv_iconst (v := 0) hx hb dX4_turn_61 (by decide) ?_
        refine lv_iadd hx hb dX4_turn_62 ?_
        refine lv_istore_n (lv' := [(2, .int (sn + 0)), (0, .ref (ad 0)), (1, .int (nI b)), (3, .int (nI i))]) hx hb dX4_turn_63 rfl hl (by decide) rfl (fun ls hl => ?_)
        refine lv_aload_n hx hb dX4_turn_64 rfl (lv_at hl 1 rfl) ?_
        refine va_get (D := D) (ci := 4) (v := .ref (ad 1)) (C := RX4) (T := TX4) (N := 12) hx hb hts hinX4 hown hK hP 0 mw_0 rfl 1 (by decide) (hts (.fieldLink RX4 7 "SquareGearsModel" "z" "[I") (by decide +kernel)) (fun _ h9 => h9) rfl dX4_turn_65 ?_
        refine lv_iload_n hx hb dX4_turn_68 rfl (lv_at hl 3 rfl) ?_
        refine lv_dup2_11 hx hb dX4_turn_69 rfl rfl ?_
        refine cx_iald (k := i) hx hb hK hP 1 1 mw_1 rfl (by omega) (by decide) dX4_turn_70 ?_
        refine lv_iload_n hx hb dX4_turn_71 rfl (lv_at hl 3 rfl) ?_
        refine lv_iload_n hx hb dX4_turn_72 rfl (lv_at hl 2 rfl) ?_
        refine cx_ri (va_runS (As := [.int (nI i), .int (nI b)]) (rest := [.int (f i), .int (nI i), .ref (ad 1)]) ⟨hx, hb, hml, hown, hts⟩ (c_X4_wave l  i b (by omega) (hb8)) (va_cwS 2 hts gX4_turn_X4_wave rfl rfl rfl (by decide +kernel) ⟨Nat.le_of_ble_eq_true rfl, Nat.le_of_ble_eq_true rfl⟩) ⟨pc_blind, (fun U hU hW => ⟨rfl, trivial⟩)⟩ rfl rfl hl.1 rfl (lv_room (Nat.le_of_ble_eq_true rfl)) dX4_turn_73 ⟨Nat.le_of_ble_eq_true rfl, Nat.le_of_ble_eq_true rfl⟩) hS hP (fun H locs hP hS => ?_)
        refine lv_imul hx hb dX4_turn_76 ?_
        refine cx_iast (k := i) hx hb hK hP (hD _ _) hS 1 1 mw_1 rfl (by omega) (by decide) mw_R0 dX4_turn_77 (fun H locs hP hS => ?_)
        refine lv_iinc (k := 3) (v := (nI (i + 1))) (lv' := [(3, .int (nI (i + 1))), (2, .int (sn + 0)), (0, .ref (ad 0)), (1, .int (nI b))]) hx hb dX4_turn_78 hl rfl (nI_add i 1) (by decide) rfl (fun ls hl => ?_)
        refine lv_goto (tgt := 33) hx hb dX4_turn_81 (by decide) ?_
        exact ih_33 (i + 1) (upd f i ((f i) * (wv i b))) (sn + 0) _ _ _ (by omega) (by omega) (up_at hf1 (tm_e (by omega) (hf2 i (by omega)))) (un_up hf2) (by first | exact tsm_a hs (hf2 i (by omega)) c_46 | exact tsm_b hs c_54 | exact tsm_c hs (hf2 i (by omega)) c_46 c_54) (m_upd hP) hS (lv_sub hl [2, 3, 1, 0] rfl)
      · refine lv_iload_n hx hb dX4_turn_49 rfl (lv_at hl 3 rfl) ?_
        refine lv_iload_n hx hb dX4_turn_50 rfl (lv_at hl 1 rfl) ?_
        refine cx_ri (va_runS (As := [.int (nI i), .int (nI b)]) (rest := [.int sn]) ⟨hx, hb, hml, hown, hts⟩ (c_X4_wave l  i b (by omega) (hb8)) (va_cwS 2 hts gX4_turn_X4_wave rfl rfl rfl (by decide +kernel) ⟨Nat.le_of_ble_eq_true rfl, Nat.le_of_ble_eq_true rfl⟩) ⟨pc_blind, (fun U hU hW => ⟨rfl, trivial⟩)⟩ rfl rfl hl.1 rfl (lv_room (Nat.le_of_ble_eq_true rfl)) dX4_turn_51 ⟨Nat.le_of_ble_eq_true rfl, Nat.le_of_ble_eq_true rfl⟩) hS hP (fun H locs hP hS => ?_)
        refine lv_if_ge (tgt := 61) hx hb dX4_turn_54 (by decide) (fun c_54 => ?_) (fun c_54 => ?_)
        · refine lv_iconst (v := 0) hx hb dX4_turn_61 (by decide) ?_
          refine lv_iadd hx hb dX4_turn_62 ?_
          refine lv_istore_n (lv' := [(2, .int (sn + 0)), (0, .ref (ad 0)), (1, .int (nI b)), (3, .int (nI i))]) hx hb dX4_turn_63 rfl hl (by decide) rfl (fun ls hl => ?_)
          refine lv_aload_n hx hb dX4_turn_64 rfl (lv_at hl 1 rfl) ?_
          refine va_get (D := D) (ci := 4) (v := .ref (ad 1)) (C := RX4) (T := TX4) (N := 12) hx hb hts hinX4 hown hK hP 0 mw_0 rfl 1 (by decide) (hts (.fieldLink RX4 7 "SquareGearsModel" "z" "[I") (by decide +kernel)) (fun _ h9 => h9) rfl dX4_turn_65 ?_
          refine lv_iload_n hx hb dX4_turn_68 rfl (lv_at hl 3 rfl) ?_
          refine lv_dup2_11 hx hb dX4_turn_69 rfl rfl ?_
          refine cx_iald (k := i) hx hb hK hP 1 1 mw_1 rfl (by omega) (by decide) dX4_turn_70 ?_
          refine lv_iload_n hx hb dX4_turn_71 rfl (lv_at hl 3 rfl) ?_
          refine lv_iload_n hx hb dX4_turn_72 rfl (lv_at hl 2 rfl) ?_
          refine cx_ri (va_runS (As := [.int (nI i), .int (nI b)]) (rest := [.int (f i), .int (nI i), .ref (ad 1)]) ⟨hx, hb, hml, hown, hts⟩ (c_X4_wave l  i b (by omega) (hb8)) (va_cwS 2 hts gX4_turn_X4_wave rfl rfl rfl (by decide +kernel) ⟨Nat.le_of_ble_eq_true rfl, Nat.le_of_ble_eq_true rfl⟩) ⟨pc_blind, (fun U hU hW => ⟨rfl, trivial⟩)⟩ rfl rfl hl.1 rfl (lv_room (Nat.le_of_ble_eq_true rfl)) dX4_turn_73 ⟨Nat.le_of_ble_eq_true rfl, Nat.le_of_ble_eq_true rfl⟩) hS hP (fun H locs hP hS => ?_)
          refine lv_imul hx hb dX4_turn_76 ?_
          refine cx_iast (k := i) hx hb hK hP (hD _ _) hS 1 1 mw_1 rfl (by omega) (by decide) mw_R0 dX4_turn_77 (fun H locs hP hS => ?_)
          refine lv_iinc (k := 3) (v := (nI (i + 1))) (lv' := [(3, .int (nI (i + 1))), (2, .int (sn + 0)), (0, .ref (ad 0)), (1, .int (nI b))]) hx hb dX4_turn_78 hl rfl (nI_add i 1) (by decide) rfl (fun ls hl => ?_)
          refine lv_goto (tgt := 33) hx hb dX4_turn_81 (by decide) ?_
          exact ih_33 (i + 1) (upd f i ((f i) * (wv i b))) (sn + 0) _ _ _ (by omega) (by omega) (up_at hf1 (tm_e (by omega) (hf2 i (by omega)))) (un_up hf2) (by first | exact tsm_a hs (hf2 i (by omega)) c_46 | exact tsm_b hs c_54 | exact tsm_c hs (hf2 i (by omega)) c_46 c_54) (m_upd hP) hS (lv_sub hl [2, 3, 1, 0] rfl)
        · refine lv_iconst (v := 1) hx hb dX4_turn_57 (by decide) ?_
          refine lv_goto (tgt := 62) hx hb dX4_turn_58 (by decide) ?_
          refine lv_iadd hx hb dX4_turn_62 ?_
          refine lv_istore_n (lv' := [(2, .int (sn + 1)), (0, .ref (ad 0)), (1, .int (nI b)), (3, .int (nI i))]) hx hb dX4_turn_63 rfl hl (by decide) rfl (fun ls hl => ?_)
          refine lv_aload_n hx hb dX4_turn_64 rfl (lv_at hl 1 rfl) ?_
          refine va_get (D := D) (ci := 4) (v := .ref (ad 1)) (C := RX4) (T := TX4) (N := 12) hx hb hts hinX4 hown hK hP 0 mw_0 rfl 1 (by decide) (hts (.fieldLink RX4 7 "SquareGearsModel" "z" "[I") (by decide +kernel)) (fun _ h9 => h9) rfl dX4_turn_65 ?_
          refine lv_iload_n hx hb dX4_turn_68 rfl (lv_at hl 3 rfl) ?_
          refine lv_dup2_11 hx hb dX4_turn_69 rfl rfl ?_
          refine cx_iald (k := i) hx hb hK hP 1 1 mw_1 rfl (by omega) (by decide) dX4_turn_70 ?_
          refine lv_iload_n hx hb dX4_turn_71 rfl (lv_at hl 3 rfl) ?_
          refine lv_iload_n hx hb dX4_turn_72 rfl (lv_at hl 2 rfl) ?_
          refine cx_ri (va_runS (As := [.int (nI i), .int (nI b)]) (rest := [.int (f i), .int (nI i), .ref (ad 1)]) ⟨hx, hb, hml, hown, hts⟩ (c_X4_wave l  i b (by omega) (hb8)) (va_cwS 2 hts gX4_turn_X4_wave rfl rfl rfl (by decide +kernel) ⟨Nat.le_of_ble_eq_true rfl, Nat.le_of_ble_eq_true rfl⟩) ⟨pc_blind, (fun U hU hW => ⟨rfl, trivial⟩)⟩ rfl rfl hl.1 rfl (lv_room (Nat.le_of_ble_eq_true rfl)) dX4_turn_73 ⟨Nat.le_of_ble_eq_true rfl, Nat.le_of_ble_eq_true rfl⟩) hS hP (fun H locs hP hS => ?_)
          refine lv_imul hx hb dX4_turn_76 ?_
          refine cx_iast (k := i) hx hb hK hP (hD _ _) hS 1 1 mw_1 rfl (by omega) (by decide) mw_R0 dX4_turn_77 (fun H locs hP hS => ?_)
          refine lv_iinc (k := 3) (v := (nI (i + 1))) (lv' := [(3, .int (nI (i + 1))), (2, .int (sn + 1)), (0, .ref (ad 0)), (1, .int (nI b))]) hx hb dX4_turn_78 hl rfl (nI_add i 1) (by decide) rfl (fun ls hl => ?_)
          refine lv_goto (tgt := 33) hx hb dX4_turn_81 (by decide) ?_
          exact ih_33 (i + 1) (upd f i ((f i) * (wv i b))) (sn + 1) _ _ _ (by omega) (by omega) (up_at hf1 (tm_e (by omega) (hf2 i (by omega)))) (un_up hf2) (by first | exact tsm_a hs (hf2 i (by omega)) c_46 | exact tsm_b hs c_54 | exact tsm_c hs (hf2 i (by omega)) c_46 c_54) (m_upd hP) hS (lv_sub hl [2, 3, 1, 0] rfl)
set_option maxHeartbeats 4000000 in
set_option maxRecDepth 100000 in
theorem c_X4_drop (l : Launch) (D : va_G) (T : Nat → ClassId) (ad : Nat → Nat) (I : Nat → Int32) (R : Nat → Nat → Int32) (sz : Nat) (sv : Nat) (x : Int32) (hAD : AD 7 ad) (hsv6 : sv ≤ 6) (hsv : I 1 = nI sv) (hx9 : outI x 1 99 = 0) : Met l yX4_drop wsX4_drop ({ frames := 1, cells := 0, slots := 0, locals := 22 }) (va_Pc [.ref (ad 0), .int x] (MB D T ad I R sz)) (va_Qi (fun r (f : Nat → Int32) => r = (cnS (R 0) 8 - cnS (dmF (R 0) x) 8) ∧ recP (R 1) (R 0) sv f) (fun (f : Nat → Int32) t => va_P D vwCl (mw T ad (upd (upd I 0 0) 1 (nI (min (sv + 1) 6))) (updR (updR R 1 f) 0 (dmF (R 0) x))) t.heap) (cA 7 ad sz)) 0 0 (cA 7 ad sz) := by
  refine Met.ofW (cc := cX4_drop) (maxL := 4) (ret := (some .int)) (by decide) rfl ?_
  intro p e s m args_ below meth c s₁ B hml hv
  obtain ⟨rfl, hsz, hP, hK⟩ := hv
  have hx := B.exec
  have hb := B.bytes
  have hr := B.returns
  have hts := atoms_spec (ws := wsX4_drop) B.pre
  have hown : s.vm.findClass RX4 = some m.cls := findClass_of_methodNamed B.named
  have hlocks := B.notSynchronized
  have hinX4 : ∀ w ∈ u_ws RX4 TX4 12, w ∈ wsX4_drop := by decide +kernel
  subst hsz
  have hS : va_S (cA 7 ad s.heap.size) s.heap s.heap [] := va_S.rf
  have hD : ∀ I R, va_D (cA 7 ad s.heap.size) (mw T ad I R) := fun I R => mw_D hAD (fun k hk => cA_in hk)
  have hl := lv_entry ([.ref (ad 0), .int x]) (n := 4) (Nat.le_of_ble_eq_true rfl)
  rw [lg_entry_eq]
  generalize (lg_sl ([.ref (ad 0), .int x]) ++ List.replicate (4 - (lg_sl ([.ref (ad 0), .int x])).length) Slot.unset).toArray = ls at hl ⊢
  have hl : lv_has ls 4 [(0, .ref (ad 0)), (1, .int x)] := hl
  refine lv_aload_n hx hb dX4_drop_0 rfl (lv_at hl 0 rfl) ?_
  refine lv_iload_n hx hb dX4_drop_1 rfl (lv_at hl 1 rfl) ?_
  refine lv_iconst (v := 1) hx hb dX4_drop_2 (by decide) ?_
  refine lv_bipush (v := 99) hx hb dX4_drop_3 (by decide) ?_
  refine cx_ri (va_runS (As := [.int x, .int 1, .int 99]) (rest := [.ref (ad 0)]) ⟨hx, hb, hml, hown, hts⟩ (c_X4_in l  x 1 99) (va_cwS 3 hts gX4_drop_X4_in rfl rfl rfl (by decide +kernel) ⟨Nat.le_of_ble_eq_true rfl, Nat.le_of_ble_eq_true rfl⟩) ⟨pc_blind, (fun U hU hW => ⟨rfl, trivial⟩)⟩ rfl rfl hl.1 rfl (lv_room (Nat.le_of_ble_eq_true rfl)) dX4_drop_5 ⟨Nat.le_of_ble_eq_true rfl, Nat.le_of_ble_eq_true rfl⟩) hS hP (fun H locs hP hS => ?_)
  refine cx_top (show (inI x 1 99) = 1 from in_of0 hx9) ?_
  refine lv_if_eq (tgt := 15) hx hb dX4_drop_8 (by decide) (fun c_8 => absurd c_8 (by decide)) (fun c_8 => ?_)
  refine lv_iconst (v := 0) hx hb dX4_drop_11 (by decide) ?_
  refine lv_goto (tgt := 16) hx hb dX4_drop_12 (by decide) ?_
  refine cx_put (D := D) (ci := 4) (v := 0) (ty := .int) (C := RX4) (T := TX4) (N := 12) hx hb hts hinX4 tyX4 tyX4_ok nmX4 hown hK hP (hD _ _) hS 0 mw_0 rfl 0 (by decide) (hts (.fieldLink RX4 29 "SquareGearsModel" "thrown" "I") (by decide +kernel)) (fun _ h9 => h9) rfl (by decide +kernel) rfl rfl (Nat.le_of_ble_eq_true rfl) mw_I0 dX4_drop_16 (fun H locs hP hS => ?_)
  refine lv_aload_n hx hb dX4_drop_19 rfl (lv_at hl 0 rfl) ?_
  refine va_get (D := D) (ci := 4) (v := .int 0) (C := RX4) (T := TX4) (N := 12) hx hb hts hinX4 hown hK hP 0 mw_0 rfl 0 (by decide) (hts (.fieldLink RX4 29 "SquareGearsModel" "thrown" "I") (by decide +kernel)) (fun _ h9 => h9) rfl dX4_drop_20 ?_
  refine lv_if_le (tgt := 28) hx hb dX4_drop_23 (by decide) (fun c_23 => ?_) (fun c_23 => absurd c_23 (by decide))
  refine lv_aload_n hx hb dX4_drop_28 rfl (lv_at hl 0 rfl) ?_
  refine cx_wv (va_runV (As := []) (rest := []) ⟨hx, hb, hml, hown, hts⟩ (c_X4_record l D T ad (upd I 0 0) R _ sv (hAD) (hsv6) (hsv)) (cwV 0 hts gX4_drop_X4_record rfl rfl rfl (by decide +kernel) ⟨Nat.le_of_ble_eq_true rfl, Nat.le_of_ble_eq_true rfl⟩) ⟨MB.blind, va_recv hK hP (ci := 4) (q0 := 0) rfl mw_0, (MB.pre hP hK rfl)⟩ rfl rfl hl.1 rfl (lv_room (Nat.le_of_ble_eq_true rfl)) dX4_drop_29 ⟨Nat.le_of_ble_eq_true rfl, Nat.le_of_ble_eq_true rfl⟩) hS (cA_le hS.1) (cA_le hS.1) (fun u_29 H locs hu_29 hP hkk hS => ?_)
  refine lv_aload_n hx hb dX4_drop_32 rfl (lv_at hl 0 rfl) ?_
  refine cx_ri (va_runV (As := []) (rest := []) ⟨hx, hb, hml, hown, hts⟩ (c_X4_turning l D T ad (upd (upd I 0 0) 1 (nI (min (sv + 1) 6))) (updR R 1 u_29) ) (cwV 0 hts gX4_drop_X4_turning rfl rfl rfl (by decide +kernel) ⟨Nat.le_of_ble_eq_true rfl, Nat.le_of_ble_eq_true rfl⟩) ⟨MR.blind, va_recv hK hP (ci := 4) (q0 := 0) rfl mw_0, (MR.pre hP hK rfl)⟩ rfl rfl hl.1 rfl (lv_room (Nat.le_of_ble_eq_true rfl)) dX4_drop_33 ⟨Nat.le_of_ble_eq_true rfl, Nat.le_of_ble_eq_true rfl⟩) hS hP (fun H locs hP hS => ?_)
  refine lv_istore_n (lv' := [(2, .int (cnS ((R 0)) 8)), (0, .ref (ad 0)), (1, .int x)]) hx hb dX4_drop_36 rfl hl (by decide) rfl (fun ls hl => ?_)
  refine lv_iconst (v := 0) hx hb dX4_drop_37 (by decide) ?_
  refine lv_istore_n (lv' := [(3, .int 0), (2, .int (cnS ((R 0)) 8)), (0, .ref (ad 0)), (1, .int x)]) hx hb dX4_drop_38 rfl hl (by decide) rfl (fun ls hl => ?_)
  suffices ih_39 : ∀ (fu : Nat) (i : Nat) (f : Nat → Int32) (H : Heap) (locs : List Loc) (ls : Array Slot), 8 - i < fu → (i ≤ 8) → (∀ j, j < i → f j = dmF (R 0) x j) → (∀ j, i ≤ j → f j = R 0 j) → va_P D vwCl (mw T ad (upd (upd I 0 0) 1 (nI (min (sv + 1) 6))) (updR (updR R 1 u_29) 0 f)) H →  va_S (cA 7 ad s.heap.size) s.heap H locs → lv_has ls 4 [(0, .ref (ad 0)), (1, .int x), (2, .int (cnS (R 0) 8)), (3, .int (nI i))] → W p l e (headSpec wsX4_drop ({ frames := 1, cells := 0, slots := 0, locals := 22 })).room s m ([.ref (ad 0), .int x] : List Value).toArray below meth c H locs 0 0 (MQ below (va_Qi (fun r (f : Nat → Int32) => r = (cnS (R 0) 8 - cnS (dmF (R 0) x) 8) ∧ recP (R 1) (R 0) sv f) (fun (f : Nat → Int32) t => va_P D vwCl (mw T ad (upd (upd I 0 0) 1 (nI (min (sv + 1) 6))) (updR (updR R 1 f) 0 (dmF (R 0) x))) t.heap) (cA 7 ad s.heap.size)) ([.ref (ad 0), .int x] : List Value).toArray s 0 0 (cA 7 ad s.heap.size)) (F0 m 39 ls []) from
    ih_39 _ 0 (R 0) _ _ _ (Nat.lt_succ_self _) (by omega) (fun j h => absurd h (Nat.not_lt_zero j)) (fun _ _ => rfl) (m_self hP) hS (lv_sub hl [2, 3, 1, 0] rfl)
  intro fu
  induction fu with
  | zero => intro i f H locs ls hfu; exact absurd hfu (Nat.not_lt_zero _)
  | succ fu ih_39 =>
    intro i f H locs ls hfu hi hf1 hf2 hP hS hl
    refine lv_iload_n hx hb dX4_drop_39 rfl (lv_at hl 3 rfl) ?_
    refine lv_bipush (v := 8) hx hb dX4_drop_40 (by decide) ?_
    refine lv_icmp_ge (tgt := 80) hx hb dX4_drop_42 (by decide) (fun c_42 => ?_) (fun c_42 => ?_)
    · have c_42 : 8 ≤ i := (nI_leI (a := 8) (b := i) (by omega) (by omega)).mp c_42
      obtain rfl : i = 8 := by omega
      have hP := m_fin0 (g := dmF (R 0) x) hP (dm_fin hf1 hf2)
      refine lv_iload_n hx hb dX4_drop_80 rfl (lv_at hl 2 rfl) ?_
      refine lv_aload_n hx hb dX4_drop_81 rfl (lv_at hl 0 rfl) ?_
      refine cx_ri (va_runV (As := []) (rest := [.int (cnS (R 0) 8)]) ⟨hx, hb, hml, hown, hts⟩ (c_X4_turning l D T ad (upd (upd I 0 0) 1 (nI (min (sv + 1) 6))) (updR (updR R 1 u_29) 0 (dmF (R 0) x)) ) (cwV 0 hts gX4_drop_X4_turning rfl rfl rfl (by decide +kernel) ⟨Nat.le_of_ble_eq_true rfl, Nat.le_of_ble_eq_true rfl⟩) ⟨MR.blind, va_recv hK hP (ci := 4) (q0 := 0) rfl mw_0, (MR.pre hP hK rfl)⟩ rfl rfl hl.1 rfl (lv_room (Nat.le_of_ble_eq_true rfl)) dX4_drop_82 ⟨Nat.le_of_ble_eq_true rfl, Nat.le_of_ble_eq_true rfl⟩) hS hP (fun H locs hP hS => ?_)
      refine lv_isub hx hb dX4_drop_85 ?_
      exact W.iret (v := ((cnS (R 0) 8) - (cnS ((dmF (R 0) x)) 8))) hx hb hr (fun t ht hW => ⟨⟨((cnS (R 0) 8) - (cnS ((dmF (R 0) x)) 8)), u_29, rfl, ⟨rfl, hu_29⟩, by show va_P _ _ _ _; rw [ht]; exact hP⟩, hS.F ht⟩) hS.2.2 dX4_drop_86
    · have c_42 : ¬ (8 ≤ i) := fun h => c_42 ((nI_leI (a := 8) (b := i) (by omega) (by omega)).mpr h)
      refine lv_aload_n hx hb dX4_drop_45 rfl (lv_at hl 0 rfl) ?_
      refine va_get (D := D) (ci := 4) (v := .ref (ad 1)) (C := RX4) (T := TX4) (N := 12) hx hb hts hinX4 hown hK hP 0 mw_0 rfl 1 (by decide) (hts (.fieldLink RX4 7 "SquareGearsModel" "z" "[I") (by decide +kernel)) (fun _ h9 => h9) rfl dX4_drop_46 ?_
      refine lv_iload_n hx hb dX4_drop_49 rfl (lv_at hl 3 rfl) ?_
      refine lv_aload_n hx hb dX4_drop_50 rfl (lv_at hl 0 rfl) ?_
      refine va_get (D := D) (ci := 4) (v := .ref (ad 1)) (C := RX4) (T := TX4) (N := 12) hx hb hts hinX4 hown hK hP 0 mw_0 rfl 1 (by decide) (hts (.fieldLink RX4 7 "SquareGearsModel" "z" "[I") (by decide +kernel)) (fun _ h9 => h9) rfl dX4_drop_51 ?_
      refine lv_iload_n hx hb dX4_drop_54 rfl (lv_at hl 3 rfl) ?_
      refine cx_iald (k := i) hx hb hK hP 1 1 mw_1 rfl (by omega) (by decide) dX4_drop_55 ?_
      refine cx_ri (va_runS (As := [.int (f i)]) (rest := [.int (nI i), .ref (ad 1)]) ⟨hx, hb, hml, hown, hts⟩ (c_X4_amount l  (f i)) (va_cwS 1 hts gX4_drop_X4_amount rfl rfl rfl (by decide +kernel) ⟨Nat.le_of_ble_eq_true rfl, Nat.le_of_ble_eq_true rfl⟩) ⟨pc_blind, (fun U hU hW => ⟨rfl, trivial⟩)⟩ rfl rfl hl.1 rfl (lv_room (Nat.le_of_ble_eq_true rfl)) dX4_drop_56 ⟨Nat.le_of_ble_eq_true rfl, Nat.le_of_ble_eq_true rfl⟩) hS hP (fun H locs hP hS => ?_)
      refine lv_iload_n hx hb dX4_drop_59 rfl (lv_at hl 1 rfl) ?_
      refine lv_icmp_ge (tgt := 67) hx hb dX4_drop_60 (by decide) (fun c_60 => ?_) (fun c_60 => ?_)
      · refine lv_aload_n hx hb dX4_drop_67 rfl (lv_at hl 0 rfl) ?_
        refine va_get (D := D) (ci := 4) (v := .ref (ad 1)) (C := RX4) (T := TX4) (N := 12) hx hb hts hinX4 hown hK hP 0 mw_0 rfl 1 (by decide) (hts (.fieldLink RX4 7 "SquareGearsModel" "z" "[I") (by decide +kernel)) (fun _ h9 => h9) rfl dX4_drop_68 ?_
        refine lv_iload_n hx hb dX4_drop_71 rfl (lv_at hl 3 rfl) ?_
        refine cx_iald (k := i) hx hb hK hP 1 1 mw_1 rfl (by omega) (by decide) dX4_drop_72 ?_
        refine cx_iast (k := i) hx hb hK hP (hD _ _) hS 1 1 mw_1 rfl (by omega) (by decide) mw_R0 dX4_drop_73 (fun H locs hP hS => ?_)
        refine lv_iinc (k := 3) (v := (nI (i + 1))) (lv' := [(3, .int (nI (i + 1))), (0, .ref (ad 0)), (1, .int x), (2, .int (cnS (R 0) 8))]) hx hb dX4_drop_74 hl rfl (nI_add i 1) (by decide) rfl (fun ls hl => ?_)
        refine lv_goto (tgt := 39) hx hb dX4_drop_77 (by decide) ?_
        exact ih_39 (i + 1) (upd f i (f i)) _ _ _ (by omega) (by omega) (by first | exact up_at hf1 (dm_t (by omega) (hf2 i (by omega)) c_60) | exact up_at hf1 (dm_f (by omega) (hf2 i (by omega)) c_60)) (un_up hf2) (m_upd hP) hS (lv_sub hl [1, 2, 3, 0] rfl)
      · refine lv_iconst (v := 0) hx hb dX4_drop_63 (by decide) ?_
        refine lv_goto (tgt := 73) hx hb dX4_drop_64 (by decide) ?_
        refine cx_iast (k := i) hx hb hK hP (hD _ _) hS 1 1 mw_1 rfl (by omega) (by decide) mw_R0 dX4_drop_73 (fun H locs hP hS => ?_)
        refine lv_iinc (k := 3) (v := (nI (i + 1))) (lv' := [(3, .int (nI (i + 1))), (0, .ref (ad 0)), (1, .int x), (2, .int (cnS (R 0) 8))]) hx hb dX4_drop_74 hl rfl (nI_add i 1) (by decide) rfl (fun ls hl => ?_)
        refine lv_goto (tgt := 39) hx hb dX4_drop_77 (by decide) ?_
        exact ih_39 (i + 1) (upd f i 0) _ _ _ (by omega) (by omega) (by first | exact up_at hf1 (dm_t (by omega) (hf2 i (by omega)) c_60) | exact up_at hf1 (dm_f (by omega) (hf2 i (by omega)) c_60)) (un_up hf2) (m_upd hP) hS (lv_sub hl [1, 2, 3, 0] rfl)

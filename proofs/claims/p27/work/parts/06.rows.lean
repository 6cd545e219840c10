theorem upd19 {D : va_G} {T : Nat → ClassId} {ad : Nat → Nat} {I : Nat → Int32} {R : Nat → Nat → Int32} {k : Nat} {f g : Nat → Int32} {H : Heap} (h : va_P D vwCl (cw T ad I (updR (updR R k f) k g)) H) : va_P D vwCl (cw T ad I (updR R k g)) H := by rw [updR_upd] at h; exact h
theorem self19 {D : va_G} {T : Nat → ClassId} {ad : Nat → Nat} {I : Nat → Int32} {R : Nat → Nat → Int32} {k : Nat} {H : Heap} (h : va_P D vwCl (cw T ad I R) H) : va_P D vwCl (cw T ad I (updR R k (R k))) H := by rw [updR_self]; exact h
theorem wv_c0 : (wv 0 0 = 1 ∧ wv 1 0 = 1 ∧ wv 2 0 = 1 ∧ wv 3 0 = 1 ∧ wv 4 0 = 1 ∧ wv 5 0 = 1 ∧ wv 6 0 = 1 ∧ wv 7 0 = 1) := by decide +kernel
theorem wv_c1 : (wv 0 1 = 1 ∧ wv 1 1 = -1 ∧ wv 2 1 = 1 ∧ wv 3 1 = -1 ∧ wv 4 1 = 1 ∧ wv 5 1 = -1 ∧ wv 6 1 = 1 ∧ wv 7 1 = -1) := by decide +kernel
theorem wv_c2 : (wv 0 2 = 1 ∧ wv 1 2 = 1 ∧ wv 2 2 = -1 ∧ wv 3 2 = -1 ∧ wv 4 2 = 1 ∧ wv 5 2 = 1 ∧ wv 6 2 = -1 ∧ wv 7 2 = -1) := by decide +kernel
theorem wv_c3 : (wv 0 3 = 1 ∧ wv 1 3 = -1 ∧ wv 2 3 = -1 ∧ wv 3 3 = 1 ∧ wv 4 3 = 1 ∧ wv 5 3 = -1 ∧ wv 6 3 = -1 ∧ wv 7 3 = 1) := by decide +kernel
theorem wv_c4 : (wv 0 4 = 1 ∧ wv 1 4 = 1 ∧ wv 2 4 = 1 ∧ wv 3 4 = 1 ∧ wv 4 4 = -1 ∧ wv 5 4 = -1 ∧ wv 6 4 = -1 ∧ wv 7 4 = -1) := by decide +kernel
theorem wv_c5 : (wv 0 5 = 1 ∧ wv 1 5 = -1 ∧ wv 2 5 = 1 ∧ wv 3 5 = -1 ∧ wv 4 5 = -1 ∧ wv 5 5 = 1 ∧ wv 6 5 = -1 ∧ wv 7 5 = 1) := by decide +kernel
theorem wv_c6 : (wv 0 6 = 1 ∧ wv 1 6 = 1 ∧ wv 2 6 = -1 ∧ wv 3 6 = -1 ∧ wv 4 6 = -1 ∧ wv 5 6 = -1 ∧ wv 6 6 = 1 ∧ wv 7 6 = 1) := by decide +kernel
theorem wv_c7 : (wv 0 7 = 1 ∧ wv 1 7 = -1 ∧ wv 2 7 = -1 ∧ wv 3 7 = 1 ∧ wv 4 7 = -1 ∧ wv 5 7 = 1 ∧ wv 6 7 = 1 ∧ wv 7 7 = -1) := by decide +kernel
theorem had_0 (g : Nat → Int32) : (((g 0) + (g 4)) + ((g 2) + (g 6))) + (((g 1) + (g 5)) + ((g 3) + (g 7))) = trS g 0 8 := by
  simp only [trS, (wv_c0).1, (wv_c0).2.1, (wv_c0).2.2.1, (wv_c0).2.2.2.1, (wv_c0).2.2.2.2.1, (wv_c0).2.2.2.2.2.1, (wv_c0).2.2.2.2.2.2.1, (wv_c0).2.2.2.2.2.2.2]
  grind
theorem had_1 (g : Nat → Int32) : (((g 0) + (g 4)) + ((g 2) + (g 6))) - (((g 1) + (g 5)) + ((g 3) + (g 7))) = trS g 1 8 := by
  simp only [trS, (wv_c1).1, (wv_c1).2.1, (wv_c1).2.2.1, (wv_c1).2.2.2.1, (wv_c1).2.2.2.2.1, (wv_c1).2.2.2.2.2.1, (wv_c1).2.2.2.2.2.2.1, (wv_c1).2.2.2.2.2.2.2]
  grind
theorem had_2 (g : Nat → Int32) : (((g 0) + (g 4)) - ((g 2) + (g 6))) + (((g 1) + (g 5)) - ((g 3) + (g 7))) = trS g 2 8 := by
  simp only [trS, (wv_c2).1, (wv_c2).2.1, (wv_c2).2.2.1, (wv_c2).2.2.2.1, (wv_c2).2.2.2.2.1, (wv_c2).2.2.2.2.2.1, (wv_c2).2.2.2.2.2.2.1, (wv_c2).2.2.2.2.2.2.2]
  grind
theorem had_3 (g : Nat → Int32) : (((g 0) + (g 4)) - ((g 2) + (g 6))) - (((g 1) + (g 5)) - ((g 3) + (g 7))) = trS g 3 8 := by
  simp only [trS, (wv_c3).1, (wv_c3).2.1, (wv_c3).2.2.1, (wv_c3).2.2.2.1, (wv_c3).2.2.2.2.1, (wv_c3).2.2.2.2.2.1, (wv_c3).2.2.2.2.2.2.1, (wv_c3).2.2.2.2.2.2.2]
  grind
theorem had_4 (g : Nat → Int32) : (((g 0) - (g 4)) + ((g 2) - (g 6))) + (((g 1) - (g 5)) + ((g 3) - (g 7))) = trS g 4 8 := by
  simp only [trS, (wv_c4).1, (wv_c4).2.1, (wv_c4).2.2.1, (wv_c4).2.2.2.1, (wv_c4).2.2.2.2.1, (wv_c4).2.2.2.2.2.1, (wv_c4).2.2.2.2.2.2.1, (wv_c4).2.2.2.2.2.2.2]
  grind
theorem had_5 (g : Nat → Int32) : (((g 0) - (g 4)) + ((g 2) - (g 6))) - (((g 1) - (g 5)) + ((g 3) - (g 7))) = trS g 5 8 := by
  simp only [trS, (wv_c5).1, (wv_c5).2.1, (wv_c5).2.2.1, (wv_c5).2.2.2.1, (wv_c5).2.2.2.2.1, (wv_c5).2.2.2.2.2.1, (wv_c5).2.2.2.2.2.2.1, (wv_c5).2.2.2.2.2.2.2]
  grind
theorem had_6 (g : Nat → Int32) : (((g 0) - (g 4)) - ((g 2) - (g 6))) + (((g 1) - (g 5)) - ((g 3) - (g 7))) = trS g 6 8 := by
  simp only [trS, (wv_c6).1, (wv_c6).2.1, (wv_c6).2.2.1, (wv_c6).2.2.2.1, (wv_c6).2.2.2.2.1, (wv_c6).2.2.2.2.2.1, (wv_c6).2.2.2.2.2.2.1, (wv_c6).2.2.2.2.2.2.2]
  grind
theorem had_7 (g : Nat → Int32) : (((g 0) - (g 4)) - ((g 2) - (g 6))) - (((g 1) - (g 5)) - ((g 3) - (g 7))) = trS g 7 8 := by
  simp only [trS, (wv_c7).1, (wv_c7).2.1, (wv_c7).2.2.1, (wv_c7).2.2.2.1, (wv_c7).2.2.2.2.1, (wv_c7).2.2.2.2.2.1, (wv_c7).2.2.2.2.2.2.1, (wv_c7).2.2.2.2.2.2.2]
  grind
set_option maxHeartbeats 4000000 in
set_option maxRecDepth 100000 in
theorem c_X3_addAndSubtractHalves (l : Launch) (D : va_G) (T : Nat → ClassId) (ad : Nat → Nat) (I : Nat → Int32) (R : Nat → Nat → Int32) (sz : Nat) (hAD : AD 34 ad) : Met l yX3_addAndSubtractHalves wsX3_addAndSubtractHalves ({ frames := 0, cells := 0, slots := 0, locals := 0 }) (va_Pc [.ref (ad 0)] (CB D T ad I R sz)) (va_Qv (fun (f : Nat → Int32) => ∀ n, n < 8 → f n = trS (R 19) n 8) (fun (f : Nat → Int32) t => va_P D vwCl (cw T ad I (updR R 19 f)) t.heap) (cA 34 ad sz)) 0 0 (cA 34 ad sz) := by
  refine Met.ofW (cc := cX3_addAndSubtractHalves) (maxL := 5) (ret := none) (by decide) rfl ?_
  intro p e s m args_ below meth c s₁ B hml hv
  obtain ⟨rfl, hsz, hP, hK, hN⟩ := hv
  have hx := B.exec
  have hb := B.bytes
  have hr := B.returns
  have hts := atoms_spec (ws := wsX3_addAndSubtractHalves) B.pre
  have hown : s.vm.findClass RX3 = some m.cls := findClass_of_methodNamed B.named
  have hlocks := B.notSynchronized
  have hinX3 : ∀ w ∈ u_ws RX3 TX3 6, w ∈ wsX3_addAndSubtractHalves := by decide +kernel
  subst hsz
  have hS : va_S (cA 34 ad s.heap.size) s.heap s.heap [] := va_S.rf
  have hD : ∀ I R, va_D (cA 34 ad s.heap.size) (cw T ad I R) := fun I R => cw_D hAD (fun k hk => cA_in hk)
  have hl := lv_entry ([.ref (ad 0)]) (n := 5) (Nat.le_of_ble_eq_true rfl)
  rw [lg_entry_eq]
  generalize (lg_sl ([.ref (ad 0)]) ++ List.replicate (5 - (lg_sl ([.ref (ad 0)])).length) Slot.unset).toArray = ls at hl ⊢
  have hl : lv_has ls 5 [(0, .ref (ad 0))] := hl
  refine lv_iconst (v := 4) hx hb dX3_addAndSubtractHalves_0 (by decide) ?_
  refine lv_istore_n (lv' := [(1, .int 4), (0, .ref (ad 0))]) hx hb dX3_addAndSubtractHalves_1 rfl hl (by decide) rfl (fun ls hl => ?_)
  refine lv_iload_n hx hb dX3_addAndSubtractHalves_2 rfl (lv_at hl 0 rfl) ?_
  refine lv_if_le (tgt := 74) hx hb dX3_addAndSubtractHalves_3 (by decide) (fun c_3 => absurd c_3 (by decide)) (fun c_3 => ?_)
  refine lv_iconst (v := 0) hx hb dX3_addAndSubtractHalves_6 (by decide) ?_
  refine lv_istore_n (lv' := [(2, .int 0), (1, .int 4), (0, .ref (ad 0))]) hx hb dX3_addAndSubtractHalves_7 rfl hl (by decide) rfl (fun ls hl => ?_)
  refine lv_iload_n hx hb dX3_addAndSubtractHalves_8 rfl (lv_at hl 0 rfl) ?_
  refine lv_iload_n hx hb dX3_addAndSubtractHalves_9 rfl (lv_at hl 1 rfl) ?_
  refine lv_iadd hx hb dX3_addAndSubtractHalves_10 ?_
  refine cx_top (y := 4) (by decide) ?_
  refine lv_bipush (v := 8) hx hb dX3_addAndSubtractHalves_11 (by decide) ?_
  refine lv_icmp_ge (tgt := 67) hx hb dX3_addAndSubtractHalves_13 (by decide) (fun c_13 => absurd c_13 (by decide)) (fun c_13 => ?_)
  refine lv_iload_n hx hb dX3_addAndSubtractHalves_16 rfl (lv_at hl 0 rfl) ?_
  refine lv_iload_n hx hb dX3_addAndSubtractHalves_17 rfl (lv_at hl 1 rfl) ?_
  refine lv_iand hx hb dX3_addAndSubtractHalves_18 ?_
  refine cx_top (y := 0) (by decide) ?_
  refine lv_if_ne (tgt := 61) hx hb dX3_addAndSubtractHalves_19 (by decide) (fun c_19 => absurd c_19 (by decide)) (fun c_19 => ?_)
  refine lv_aload_n hx hb dX3_addAndSubtractHalves_22 rfl (lv_at hl 2 rfl) ?_
  refine va_get (D := D) (ci := 3) (v := .ref (ad 9)) (C := RX3) (T := TX3) (N := 6) hx hb hts hinX3 hown hK hP 0 cw_0 rfl 5 (by decide) (hts (.fieldLink RX3 38 "SquareGears" "row" "[I") (by decide +kernel)) (fun _ h9 => h9) rfl dX3_addAndSubtractHalves_23 ?_
  refine lv_iload_n hx hb dX3_addAndSubtractHalves_26 rfl (lv_at hl 0 rfl) ?_
  refine cx_iald (k := 0) hx hb hK hP 9 1 cw_9 rfl (by decide) (by decide) dX3_addAndSubtractHalves_27 ?_
  refine lv_istore_n (lv' := [(3, .int ((R 19) 0)), (2, .int 0), (1, .int 4), (0, .ref (ad 0))]) hx hb dX3_addAndSubtractHalves_28 rfl hl (by decide) rfl (fun ls hl => ?_)
  refine lv_aload_n hx hb dX3_addAndSubtractHalves_29 rfl (lv_at hl 3 rfl) ?_
  refine va_get (D := D) (ci := 3) (v := .ref (ad 9)) (C := RX3) (T := TX3) (N := 6) hx hb hts hinX3 hown hK hP 0 cw_0 rfl 5 (by decide) (hts (.fieldLink RX3 38 "SquareGears" "row" "[I") (by decide +kernel)) (fun _ h9 => h9) rfl dX3_addAndSubtractHalves_30 ?_
  refine lv_iload_n hx hb dX3_addAndSubtractHalves_33 rfl (lv_at hl 1 rfl) ?_
  refine lv_iload_n hx hb dX3_addAndSubtractHalves_34 rfl (lv_at hl 2 rfl) ?_
  refine lv_iadd hx hb dX3_addAndSubtractHalves_35 ?_
  refine cx_top (y := 4) (by decide) ?_
  refine cx_iald (k := 4) hx hb hK hP 9 1 cw_9 rfl (by decide) (by decide) dX3_addAndSubtractHalves_36 ?_
  refine lv_istore (lv' := [(4, .int ((R 19) 4)), (3, .int ((R 19) 0)), (2, .int 0), (1, .int 4), (0, .ref (ad 0))]) hx hb dX3_addAndSubtractHalves_37 hl (by decide) rfl (fun ls hl => ?_)
  refine lv_aload_n hx hb dX3_addAndSubtractHalves_39 rfl (lv_at hl 4 rfl) ?_
  refine va_get (D := D) (ci := 3) (v := .ref (ad 9)) (C := RX3) (T := TX3) (N := 6) hx hb hts hinX3 hown hK hP 0 cw_0 rfl 5 (by decide) (hts (.fieldLink RX3 38 "SquareGears" "row" "[I") (by decide +kernel)) (fun _ h9 => h9) rfl dX3_addAndSubtractHalves_40 ?_
  refine lv_iload_n hx hb dX3_addAndSubtractHalves_43 rfl (lv_at hl 2 rfl) ?_
  refine lv_iload_n hx hb dX3_addAndSubtractHalves_44 rfl (lv_at hl 1 rfl) ?_
  refine lv_iload hx hb dX3_addAndSubtractHalves_45 (lv_at hl 0 rfl) ?_
  refine lv_iadd hx hb dX3_addAndSubtractHalves_47 ?_
  refine cx_iast (k := 0) hx hb hK hP (hD _ _) hS 9 1 cw_9 rfl (by decide) (by decide) cw_R19 dX3_addAndSubtractHalves_48 (fun H locs hP hS => ?_)
  refine lv_aload_n hx hb dX3_addAndSubtractHalves_49 rfl (lv_at hl 4 rfl) ?_
  refine va_get (D := D) (ci := 3) (v := .ref (ad 9)) (C := RX3) (T := TX3) (N := 6) hx hb hts hinX3 hown hK hP 0 cw_0 rfl 5 (by decide) (hts (.fieldLink RX3 38 "SquareGears" "row" "[I") (by decide +kernel)) (fun _ h9 => h9) rfl dX3_addAndSubtractHalves_50 ?_
  refine lv_iload_n hx hb dX3_addAndSubtractHalves_53 rfl (lv_at hl 2 rfl) ?_
  refine lv_iload_n hx hb dX3_addAndSubtractHalves_54 rfl (lv_at hl 3 rfl) ?_
  refine lv_iadd hx hb dX3_addAndSubtractHalves_55 ?_
  refine cx_top (y := 4) (by decide) ?_
  refine lv_iload_n hx hb dX3_addAndSubtractHalves_56 rfl (lv_at hl 1 rfl) ?_
  refine lv_iload hx hb dX3_addAndSubtractHalves_57 (lv_at hl 0 rfl) ?_
  refine lv_isub hx hb dX3_addAndSubtractHalves_59 ?_
  refine cx_iast (k := 4) hx hb hK hP (hD _ _) hS 9 1 cw_9 rfl (by decide) (by decide) cw_R19 dX3_addAndSubtractHalves_60 (fun H locs hP hS => ?_)
  refine lv_iinc (k := 2) (v := (nI 1)) (lv' := [(2, .int (nI 1)), (4, .int ((R 19) 4)), (3, .int ((R 19) 0)), (1, .int 4), (0, .ref (ad 0))]) hx hb dX3_addAndSubtractHalves_61 hl rfl (nI_add 0 1) (by decide) rfl (fun ls hl => ?_)
  refine lv_goto (tgt := 8) hx hb dX3_addAndSubtractHalves_64 (by decide) ?_
  refine lv_iload_n hx hb dX3_addAndSubtractHalves_8 rfl (lv_at hl 0 rfl) ?_
  refine lv_iload_n hx hb dX3_addAndSubtractHalves_9 rfl (lv_at hl 3 rfl) ?_
  refine lv_iadd hx hb dX3_addAndSubtractHalves_10 ?_
  refine cx_top (y := 5) (by decide) ?_
  refine lv_bipush (v := 8) hx hb dX3_addAndSubtractHalves_11 (by decide) ?_
  refine lv_icmp_ge (tgt := 67) hx hb dX3_addAndSubtractHalves_13 (by decide) (fun c_13 => absurd c_13 (by decide)) (fun c_13 => ?_)
  refine lv_iload_n hx hb dX3_addAndSubtractHalves_16 rfl (lv_at hl 0 rfl) ?_
  refine lv_iload_n hx hb dX3_addAndSubtractHalves_17 rfl (lv_at hl 3 rfl) ?_
  refine lv_iand hx hb dX3_addAndSubtractHalves_18 ?_
  refine cx_top (y := 0) (by decide) ?_
  refine lv_if_ne (tgt := 61) hx hb dX3_addAndSubtractHalves_19 (by decide) (fun c_19 => absurd c_19 (by decide)) (fun c_19 => ?_)
  refine lv_aload_n hx hb dX3_addAndSubtractHalves_22 rfl (lv_at hl 4 rfl) ?_
  refine va_get (D := D) (ci := 3) (v := .ref (ad 9)) (C := RX3) (T := TX3) (N := 6) hx hb hts hinX3 hown hK hP 0 cw_0 rfl 5 (by decide) (hts (.fieldLink RX3 38 "SquareGears" "row" "[I") (by decide +kernel)) (fun _ h9 => h9) rfl dX3_addAndSubtractHalves_23 ?_
  refine lv_iload_n hx hb dX3_addAndSubtractHalves_26 rfl (lv_at hl 0 rfl) ?_
  refine cx_iald (k := 1) hx hb hK hP 9 1 cw_9 rfl (by omega) (by decide) dX3_addAndSubtractHalves_27 ?_
  refine cx_top (y := ((R 19) 1)) rfl ?_
  refine lv_istore_n (lv' := [(3, .int ((R 19) 1)), (2, .int (nI 1)), (4, .int ((R 19) 4)), (1, .int 4), (0, .ref (ad 0))]) hx hb dX3_addAndSubtractHalves_28 rfl hl (by decide) rfl (fun ls hl => ?_)
  refine lv_aload_n hx hb dX3_addAndSubtractHalves_29 rfl (lv_at hl 4 rfl) ?_
  refine va_get (D := D) (ci := 3) (v := .ref (ad 9)) (C := RX3) (T := TX3) (N := 6) hx hb hts hinX3 hown hK hP 0 cw_0 rfl 5 (by decide) (hts (.fieldLink RX3 38 "SquareGears" "row" "[I") (by decide +kernel)) (fun _ h9 => h9) rfl dX3_addAndSubtractHalves_30 ?_
  refine lv_iload_n hx hb dX3_addAndSubtractHalves_33 rfl (lv_at hl 1 rfl) ?_
  refine lv_iload_n hx hb dX3_addAndSubtractHalves_34 rfl (lv_at hl 3 rfl) ?_
  refine lv_iadd hx hb dX3_addAndSubtractHalves_35 ?_
  refine cx_top (y := 5) (by decide) ?_
  refine cx_iald (k := 5) hx hb hK hP 9 1 cw_9 rfl (by decide) (by decide) dX3_addAndSubtractHalves_36 ?_
  refine cx_top (y := ((R 19) 5)) rfl ?_
  refine lv_istore (lv' := [(4, .int ((R 19) 5)), (3, .int ((R 19) 1)), (2, .int (nI 1)), (1, .int 4), (0, .ref (ad 0))]) hx hb dX3_addAndSubtractHalves_37 hl (by decide) rfl (fun ls hl => ?_)
  refine lv_aload_n hx hb dX3_addAndSubtractHalves_39 rfl (lv_at hl 4 rfl) ?_
  refine va_get (D := D) (ci := 3) (v := .ref (ad 9)) (C := RX3) (T := TX3) (N := 6) hx hb hts hinX3 hown hK hP 0 cw_0 rfl 5 (by decide) (hts (.fieldLink RX3 38 "SquareGears" "row" "[I") (by decide +kernel)) (fun _ h9 => h9) rfl dX3_addAndSubtractHalves_40 ?_
  refine lv_iload_n hx hb dX3_addAndSubtractHalves_43 rfl (lv_at hl 2 rfl) ?_
  refine lv_iload_n hx hb dX3_addAndSubtractHalves_44 rfl (lv_at hl 1 rfl) ?_
  refine lv_iload hx hb dX3_addAndSubtractHalves_45 (lv_at hl 0 rfl) ?_
  refine lv_iadd hx hb dX3_addAndSubtractHalves_47 ?_
  refine cx_iast (k := 1) hx hb hK hP (hD _ _) hS 9 1 cw_9 rfl (by omega) (by decide) cw_R19 dX3_addAndSubtractHalves_48 (fun H locs hP hS => ?_)
  refine lv_aload_n hx hb dX3_addAndSubtractHalves_49 rfl (lv_at hl 4 rfl) ?_
  refine va_get (D := D) (ci := 3) (v := .ref (ad 9)) (C := RX3) (T := TX3) (N := 6) hx hb hts hinX3 hown hK hP 0 cw_0 rfl 5 (by decide) (hts (.fieldLink RX3 38 "SquareGears" "row" "[I") (by decide +kernel)) (fun _ h9 => h9) rfl dX3_addAndSubtractHalves_50 ?_
  refine lv_iload_n hx hb dX3_addAndSubtractHalves_53 rfl (lv_at hl 2 rfl) ?_
  refine lv_iload_n hx hb dX3_addAndSubtractHalves_54 rfl (lv_at hl 3 rfl) ?_
  refine lv_iadd hx hb dX3_addAndSubtractHalves_55 ?_
  refine cx_top (y := 5) (by decide) ?_
  refine lv_iload_n hx hb dX3_addAndSubtractHalves_56 rfl (lv_at hl 1 rfl) ?_
  refine lv_iload hx hb dX3_addAndSubtractHalves_57 (lv_at hl 0 rfl) ?_
  refine lv_isub hx hb dX3_addAndSubtractHalves_59 ?_
  refine cx_iast (k := 5) hx hb hK hP (hD _ _) hS 9 1 cw_9 rfl (by decide) (by decide) cw_R19 dX3_addAndSubtractHalves_60 (fun H locs hP hS => ?_)
  refine lv_iinc (k := 2) (v := (nI 2)) (lv' := [(2, .int (nI 2)), (4, .int ((R 19) 5)), (3, .int ((R 19) 1)), (1, .int 4), (0, .ref (ad 0))]) hx hb dX3_addAndSubtractHalves_61 hl rfl (nI_add 1 1) (by decide) rfl (fun ls hl => ?_)
  refine lv_goto (tgt := 8) hx hb dX3_addAndSubtractHalves_64 (by decide) ?_
  refine lv_iload_n hx hb dX3_addAndSubtractHalves_8 rfl (lv_at hl 0 rfl) ?_
  refine lv_iload_n hx hb dX3_addAndSubtractHalves_9 rfl (lv_at hl 3 rfl) ?_
  refine lv_iadd hx hb dX3_addAndSubtractHalves_10 ?_
  refine cx_top (y := 6) (by decide) ?_
  refine lv_bipush (v := 8) hx hb dX3_addAndSubtractHalves_11 (by decide) ?_
  refine lv_icmp_ge (tgt := 67) hx hb dX3_addAndSubtractHalves_13 (by decide) (fun c_13 => absurd c_13 (by decide)) (fun c_13 => ?_)
  refine lv_iload_n hx hb dX3_addAndSubtractHalves_16 rfl (lv_at hl 0 rfl) ?_
  refine lv_iload_n hx hb dX3_addAndSubtractHalves_17 rfl (lv_at hl 3 rfl) ?_
  refine lv_iand hx hb dX3_addAndSubtractHalves_18 ?_
  refine cx_top (y := 0) (by decide) ?_
  refine lv_if_ne (tgt := 61) hx hb dX3_addAndSubtractHalves_19 (by decide) (fun c_19 => absurd c_19 (by decide)) (fun c_19 => ?_)
  refine lv_aload_n hx hb dX3_addAndSubtractHalves_22 rfl (lv_at hl 4 rfl) ?_
  refine va_get (D := D) (ci := 3) (v := .ref (ad 9)) (C := RX3) (T := TX3) (N := 6) hx hb hts hinX3 hown hK hP 0 cw_0 rfl 5 (by decide) (hts (.fieldLink RX3 38 "SquareGears" "row" "[I") (by decide +kernel)) (fun _ h9 => h9) rfl dX3_addAndSubtractHalves_23 ?_
  refine lv_iload_n hx hb dX3_addAndSubtractHalves_26 rfl (lv_at hl 0 rfl) ?_
  refine cx_iald (k := 2) hx hb hK hP 9 1 cw_9 rfl (by omega) (by decide) dX3_addAndSubtractHalves_27 ?_
  refine cx_top (y := ((R 19) 2)) rfl ?_
  refine lv_istore_n (lv' := [(3, .int ((R 19) 2)), (2, .int (nI 2)), (4, .int ((R 19) 5)), (1, .int 4), (0, .ref (ad 0))]) hx hb dX3_addAndSubtractHalves_28 rfl hl (by decide) rfl (fun ls hl => ?_)
  refine lv_aload_n hx hb dX3_addAndSubtractHalves_29 rfl (lv_at hl 4 rfl) ?_
  refine va_get (D := D) (ci := 3) (v := .ref (ad 9)) (C := RX3) (T := TX3) (N := 6) hx hb hts hinX3 hown hK hP 0 cw_0 rfl 5 (by decide) (hts (.fieldLink RX3 38 "SquareGears" "row" "[I") (by decide +kernel)) (fun _ h9 => h9) rfl dX3_addAndSubtractHalves_30 ?_
  refine lv_iload_n hx hb dX3_addAndSubtractHalves_33 rfl (lv_at hl 1 rfl) ?_
  refine lv_iload_n hx hb dX3_addAndSubtractHalves_34 rfl (lv_at hl 3 rfl) ?_
  refine lv_iadd hx hb dX3_addAndSubtractHalves_35 ?_
  refine cx_top (y := 6) (by decide) ?_
  refine cx_iald (k := 6) hx hb hK hP 9 1 cw_9 rfl (by decide) (by decide) dX3_addAndSubtractHalves_36 ?_
  refine cx_top (y := ((R 19) 6)) rfl ?_
  refine lv_istore (lv' := [(4, .int ((R 19) 6)), (3, .int ((R 19) 2)), (2, .int (nI 2)), (1, .int 4), (0, .ref (ad 0))]) hx hb dX3_addAndSubtractHalves_37 hl (by decide) rfl (fun ls hl => ?_)
  refine lv_aload_n hx hb dX3_addAndSubtractHalves_39 rfl (lv_at hl 4 rfl) ?_
  refine va_get (D := D) (ci := 3) (v := .ref (ad 9)) (C := RX3) (T := TX3) (N := 6) hx hb hts hinX3 hown hK hP 0 cw_0 rfl 5 (by decide) (hts (.fieldLink RX3 38 "SquareGears" "row" "[I") (by decide +kernel)) (fun _ h9 => h9) rfl dX3_addAndSubtractHalves_40 ?_
  refine lv_iload_n hx hb dX3_addAndSubtractHalves_43 rfl (lv_at hl 2 rfl) ?_
  refine lv_iload_n hx hb dX3_addAndSubtractHalves_44 rfl (lv_at hl 1 rfl) ?_
  refine lv_iload hx hb dX3_addAndSubtractHalves_45 (lv_at hl 0 rfl) ?_
  refine lv_iadd hx hb dX3_addAndSubtractHalves_47 ?_
  refine cx_iast (k := 2) hx hb hK hP (hD _ _) hS 9 1 cw_9 rfl (by omega) (by decide) cw_R19 dX3_addAndSubtractHalves_48 (fun H locs hP hS => ?_)
  refine lv_aload_n hx hb dX3_addAndSubtractHalves_49 rfl (lv_at hl 4 rfl) ?_
  refine va_get (D := D) (ci := 3) (v := .ref (ad 9)) (C := RX3) (T := TX3) (N := 6) hx hb hts hinX3 hown hK hP 0 cw_0 rfl 5 (by decide) (hts (.fieldLink RX3 38 "SquareGears" "row" "[I") (by decide +kernel)) (fun _ h9 => h9) rfl dX3_addAndSubtractHalves_50 ?_
  refine lv_iload_n hx hb dX3_addAndSubtractHalves_53 rfl (lv_at hl 2 rfl) ?_
  refine lv_iload_n hx hb dX3_addAndSubtractHalves_54 rfl (lv_at hl 3 rfl) ?_
  refine lv_iadd hx hb dX3_addAndSubtractHalves_55 ?_
  refine cx_top (y := 6) (by decide) ?_
  refine lv_iload_n hx hb dX3_addAndSubtractHalves_56 rfl (lv_at hl 1 rfl) ?_
  refine lv_iload hx hb dX3_addAndSubtractHalves_57 (lv_at hl 0 rfl) ?_
  refine lv_isub hx hb dX3_addAndSubtractHalves_59 ?_
  refine cx_iast (k := 6) hx hb hK hP (hD _ _) hS 9 1 cw_9 rfl (by decide) (by decide) cw_R19 dX3_addAndSubtractHalves_60 (fun H locs hP hS => ?_)
  refine lv_iinc (k := 2) (v := (nI 3)) (lv' := [(2, .int (nI 3)), (4, .int ((R 19) 6)), (3, .int ((R 19) 2)), (1, .int 4), (0, .ref (ad 0))]) hx hb dX3_addAndSubtractHalves_61 hl rfl (nI_add 2 1) (by decide) rfl (fun ls hl => ?_)
  refine lv_goto (tgt := 8) hx hb dX3_addAndSubtractHalves_64 (by decide) ?_
  refine lv_iload_n hx hb dX3_addAndSubtractHalves_8 rfl (lv_at hl 0 rfl) ?_
  refine lv_iload_n hx hb dX3_addAndSubtractHalves_9 rfl (lv_at hl 3 rfl) ?_
  refine lv_iadd hx hb dX3_addAndSubtractHalves_10 ?_
  refine cx_top (y := 7) (by decide) ?_
  refine lv_bipush (v := 8) hx hb dX3_addAndSubtractHalves_11 (by decide) ?_
  refine lv_icmp_ge (tgt := 67) hx hb dX3_addAndSubtractHalves_13 (by decide) (fun c_13 => absurd c_13 (by decide)) (fun c_13 => ?_)
  refine lv_iload_n hx hb dX3_addAndSubtractHalves_16 rfl (lv_at hl 0 rfl) ?_
  refine lv_iload_n hx hb dX3_addAndSubtractHalves_17 rfl (lv_at hl 3 rfl) ?_
  refine lv_iand hx hb dX3_addAndSubtractHalves_18 ?_
  refine cx_top (y := 0) (by decide) ?_
  refine lv_if_ne (tgt := 61) hx hb dX3_addAndSubtractHalves_19 (by decide) (fun c_19 => absurd c_19 (by decide)) (fun c_19 => ?_)
  refine lv_aload_n hx hb dX3_addAndSubtractHalves_22 rfl (lv_at hl 4 rfl) ?_
  refine va_get (D := D) (ci := 3) (v := .ref (ad 9)) (C := RX3) (T := TX3) (N := 6) hx hb hts hinX3 hown hK hP 0 cw_0 rfl 5 (by decide) (hts (.fieldLink RX3 38 "SquareGears" "row" "[I") (by decide +kernel)) (fun _ h9 => h9) rfl dX3_addAndSubtractHalves_23 ?_
  refine lv_iload_n hx hb dX3_addAndSubtractHalves_26 rfl (lv_at hl 0 rfl) ?_
  refine cx_iald (k := 3) hx hb hK hP 9 1 cw_9 rfl (by omega) (by decide) dX3_addAndSubtractHalves_27 ?_
  refine cx_top (y := ((R 19) 3)) rfl ?_
  refine lv_istore_n (lv' := [(3, .int ((R 19) 3)), (2, .int (nI 3)), (4, .int ((R 19) 6)), (1, .int 4), (0, .ref (ad 0))]) hx hb dX3_addAndSubtractHalves_28 rfl hl (by decide) rfl (fun ls hl => ?_)
  refine lv_aload_n hx hb dX3_addAndSubtractHalves_29 rfl (lv_at hl 4 rfl) ?_
  refine va_get (D := D) (ci := 3) (v := .ref (ad 9)) (C := RX3) (T := TX3) (N := 6) hx hb hts hinX3 hown hK hP 0 cw_0 rfl 5 (by decide) (hts (.fieldLink RX3 38 "SquareGears" "row" "[I") (by decide +kernel)) (fun _ h9 => h9) rfl dX3_addAndSubtractHalves_30 ?_
  refine lv_iload_n hx hb dX3_addAndSubtractHalves_33 rfl (lv_at hl 1 rfl) ?_
  refine lv_iload_n hx hb dX3_addAndSubtractHalves_34 rfl (lv_at hl 3 rfl) ?_
  refine lv_iadd hx hb dX3_addAndSubtractHalves_35 ?_
  refine cx_top (y := 7) (by decide) ?_
  refine cx_iald (k := 7) hx hb hK hP 9 1 cw_9 rfl (by decide) (by decide) dX3_addAndSubtractHalves_36 ?_
  refine cx_top (y := ((R 19) 7)) rfl ?_
  refine lv_istore (lv' := [(4, .int ((R 19) 7)), (3, .int ((R 19) 3)), (2, .int (nI 3)), (1, .int 4), (0, .ref (ad 0))]) hx hb dX3_addAndSubtractHalves_37 hl (by decide) rfl (fun ls hl => ?_)
  refine lv_aload_n hx hb dX3_addAndSubtractHalves_39 rfl (lv_at hl 4 rfl) ?_
  refine va_get (D := D) (ci := 3) (v := .ref (ad 9)) (C := RX3) (T := TX3) (N := 6) hx hb hts hinX3 hown hK hP 0 cw_0 rfl 5 (by decide) (hts (.fieldLink RX3 38 "SquareGears" "row" "[I") (by decide +kernel)) (fun _ h9 => h9) rfl dX3_addAndSubtractHalves_40 ?_
  refine lv_iload_n hx hb dX3_addAndSubtractHalves_43 rfl (lv_at hl 2 rfl) ?_
  refine lv_iload_n hx hb dX3_addAndSubtractHalves_44 rfl (lv_at hl 1 rfl) ?_
  refine lv_iload hx hb dX3_addAndSubtractHalves_45 (lv_at hl 0 rfl) ?_
  refine lv_iadd hx hb dX3_addAndSubtractHalves_47 ?_
  refine cx_iast (k := 3) hx hb hK hP (hD _ _) hS 9 1 cw_9 rfl (by omega) (by decide) cw_R19 dX3_addAndSubtractHalves_48 (fun H locs hP hS => ?_)
  refine lv_aload_n hx hb dX3_addAndSubtractHalves_49 rfl (lv_at hl 4 rfl) ?_
  refine va_get (D := D) (ci := 3) (v := .ref (ad 9)) (C := RX3) (T := TX3) (N := 6) hx hb hts hinX3 hown hK hP 0 cw_0 rfl 5 (by decide) (hts (.fieldLink RX3 38 "SquareGears" "row" "[I") (by decide +kernel)) (fun _ h9 => h9) rfl dX3_addAndSubtractHalves_50 ?_
  refine lv_iload_n hx hb dX3_addAndSubtractHalves_53 rfl (lv_at hl 2 rfl) ?_
  refine lv_iload_n hx hb dX3_addAndSubtractHalves_54 rfl (lv_at hl 3 rfl) ?_
  refine lv_iadd hx hb dX3_addAndSubtractHalves_55 ?_
  refine cx_top (y := 7) (by decide) ?_
  refine lv_iload_n hx hb dX3_addAndSubtractHalves_56 rfl (lv_at hl 1 rfl) ?_
  refine lv_iload hx hb dX3_addAndSubtractHalves_57 (lv_at hl 0 rfl) ?_
  refine lv_isub hx hb dX3_addAndSubtractHalves_59 ?_
  refine cx_iast (k := 7) hx hb hK hP (hD _ _) hS 9 1 cw_9 rfl (by decide) (by decide) cw_R19 dX3_addAndSubtractHalves_60 (fun H locs hP hS => ?_)
  refine lv_iinc (k := 2) (v := (nI 4)) (lv' := [(2, .int (nI 4)), (4, .int ((R 19) 7)), (3, .int ((R 19) 3)), (1, .int 4), (0, .ref (ad 0))]) hx hb dX3_addAndSubtractHalves_61 hl rfl (nI_add 3 1) (by decide) rfl (fun ls hl => ?_)
  refine lv_goto (tgt := 8) hx hb dX3_addAndSubtractHalves_64 (by decide) ?_
  refine lv_iload_n hx hb dX3_addAndSubtractHalves_8 rfl (lv_at hl 0 rfl) ?_
  refine lv_iload_n hx hb dX3_addAndSubtractHalves_9 rfl (lv_at hl 3 rfl) ?_
  refine lv_iadd hx hb dX3_addAndSubtractHalves_10 ?_
  refine cx_top (y := 8) (by decide) ?_
  refine lv_bipush (v := 8) hx hb dX3_addAndSubtractHalves_11 (by decide) ?_
  refine lv_icmp_ge (tgt := 67) hx hb dX3_addAndSubtractHalves_13 (by decide) (fun c_13 => ?_) (fun c_13 => absurd c_13 (by decide))
  refine lv_iload_n hx hb dX3_addAndSubtractHalves_67 rfl (lv_at hl 3 rfl) ?_
  refine lv_iconst (v := 2) hx hb dX3_addAndSubtractHalves_68 (by decide) ?_
  refine lv_idiv hx hb dX3_addAndSubtractHalves_69 (by decide) ?_
  refine cx_top (y := 2) (by decide) ?_
  refine lv_istore_n (lv' := [(1, .int 2), (2, .int (nI 4)), (4, .int ((R 19) 7)), (3, .int ((R 19) 3)), (0, .ref (ad 0))]) hx hb dX3_addAndSubtractHalves_70 rfl hl (by decide) rfl (fun ls hl => ?_)
  refine lv_goto (tgt := 2) hx hb dX3_addAndSubtractHalves_71 (by decide) ?_
  refine lv_iload_n hx hb dX3_addAndSubtractHalves_2 rfl (lv_at hl 0 rfl) ?_
  refine lv_if_le (tgt := 74) hx hb dX3_addAndSubtractHalves_3 (by decide) (fun c_3 => absurd c_3 (by decide)) (fun c_3 => ?_)
  refine lv_iconst (v := 0) hx hb dX3_addAndSubtractHalves_6 (by decide) ?_
  refine lv_istore_n (lv' := [(2, .int 0), (1, .int 2), (4, .int ((R 19) 7)), (3, .int ((R 19) 3)), (0, .ref (ad 0))]) hx hb dX3_addAndSubtractHalves_7 rfl hl (by decide) rfl (fun ls hl => ?_)
  refine lv_iload_n hx hb dX3_addAndSubtractHalves_8 rfl (lv_at hl 0 rfl) ?_
  refine lv_iload_n hx hb dX3_addAndSubtractHalves_9 rfl (lv_at hl 1 rfl) ?_
  refine lv_iadd hx hb dX3_addAndSubtractHalves_10 ?_
  refine cx_top (y := 2) (by decide) ?_
  refine lv_bipush (v := 8) hx hb dX3_addAndSubtractHalves_11 (by decide) ?_
  refine lv_icmp_ge (tgt := 67) hx hb dX3_addAndSubtractHalves_13 (by decide) (fun c_13 => absurd c_13 (by decide)) (fun c_13 => ?_)
  refine lv_iload_n hx hb dX3_addAndSubtractHalves_16 rfl (lv_at hl 0 rfl) ?_
  refine lv_iload_n hx hb dX3_addAndSubtractHalves_17 rfl (lv_at hl 1 rfl) ?_
  refine lv_iand hx hb dX3_addAndSubtractHalves_18 ?_
  refine cx_top (y := 0) (by decide) ?_
  refine lv_if_ne (tgt := 61) hx hb dX3_addAndSubtractHalves_19 (by decide) (fun c_19 => absurd c_19 (by decide)) (fun c_19 => ?_)
  refine lv_aload_n hx hb dX3_addAndSubtractHalves_22 rfl (lv_at hl 4 rfl) ?_
  refine va_get (D := D) (ci := 3) (v := .ref (ad 9)) (C := RX3) (T := TX3) (N := 6) hx hb hts hinX3 hown hK hP 0 cw_0 rfl 5 (by decide) (hts (.fieldLink RX3 38 "SquareGears" "row" "[I") (by decide +kernel)) (fun _ h9 => h9) rfl dX3_addAndSubtractHalves_23 ?_
  refine lv_iload_n hx hb dX3_addAndSubtractHalves_26 rfl (lv_at hl 0 rfl) ?_
  refine cx_iald (k := 0) hx hb hK hP 9 1 cw_9 rfl (by decide) (by decide) dX3_addAndSubtractHalves_27 ?_
  refine cx_top (y := (((R 19) 0) + ((R 19) 4))) rfl ?_
  refine lv_istore_n (lv' := [(3, .int (((R 19) 0) + ((R 19) 4))), (2, .int 0), (1, .int 2), (4, .int ((R 19) 7)), (0, .ref (ad 0))]) hx hb dX3_addAndSubtractHalves_28 rfl hl (by decide) rfl (fun ls hl => ?_)
  refine lv_aload_n hx hb dX3_addAndSubtractHalves_29 rfl (lv_at hl 4 rfl) ?_
  refine va_get (D := D) (ci := 3) (v := .ref (ad 9)) (C := RX3) (T := TX3) (N := 6) hx hb hts hinX3 hown hK hP 0 cw_0 rfl 5 (by decide) (hts (.fieldLink RX3 38 "SquareGears" "row" "[I") (by decide +kernel)) (fun _ h9 => h9) rfl dX3_addAndSubtractHalves_30 ?_
  refine lv_iload_n hx hb dX3_addAndSubtractHalves_33 rfl (lv_at hl 1 rfl) ?_
  refine lv_iload_n hx hb dX3_addAndSubtractHalves_34 rfl (lv_at hl 2 rfl) ?_
  refine lv_iadd hx hb dX3_addAndSubtractHalves_35 ?_
  refine cx_top (y := 2) (by decide) ?_
  refine cx_iald (k := 2) hx hb hK hP 9 1 cw_9 rfl (by decide) (by decide) dX3_addAndSubtractHalves_36 ?_
  refine cx_top (y := (((R 19) 2) + ((R 19) 6))) rfl ?_
  refine lv_istore (lv' := [(4, .int (((R 19) 2) + ((R 19) 6))), (3, .int (((R 19) 0) + ((R 19) 4))), (2, .int 0), (1, .int 2), (0, .ref (ad 0))]) hx hb dX3_addAndSubtractHalves_37 hl (by decide) rfl (fun ls hl => ?_)
  refine lv_aload_n hx hb dX3_addAndSubtractHalves_39 rfl (lv_at hl 4 rfl) ?_
  refine va_get (D := D) (ci := 3) (v := .ref (ad 9)) (C := RX3) (T := TX3) (N := 6) hx hb hts hinX3 hown hK hP 0 cw_0 rfl 5 (by decide) (hts (.fieldLink RX3 38 "SquareGears" "row" "[I") (by decide +kernel)) (fun _ h9 => h9) rfl dX3_addAndSubtractHalves_40 ?_
  refine lv_iload_n hx hb dX3_addAndSubtractHalves_43 rfl (lv_at hl 2 rfl) ?_
  refine lv_iload_n hx hb dX3_addAndSubtractHalves_44 rfl (lv_at hl 1 rfl) ?_
  refine lv_iload hx hb dX3_addAndSubtractHalves_45 (lv_at hl 0 rfl) ?_
  refine lv_iadd hx hb dX3_addAndSubtractHalves_47 ?_
  refine cx_iast (k := 0) hx hb hK hP (hD _ _) hS 9 1 cw_9 rfl (by decide) (by decide) cw_R19 dX3_addAndSubtractHalves_48 (fun H locs hP hS => ?_)
  refine lv_aload_n hx hb dX3_addAndSubtractHalves_49 rfl (lv_at hl 4 rfl) ?_
  refine va_get (D := D) (ci := 3) (v := .ref (ad 9)) (C := RX3) (T := TX3) (N := 6) hx hb hts hinX3 hown hK hP 0 cw_0 rfl 5 (by decide) (hts (.fieldLink RX3 38 "SquareGears" "row" "[I") (by decide +kernel)) (fun _ h9 => h9) rfl dX3_addAndSubtractHalves_50 ?_
  refine lv_iload_n hx hb dX3_addAndSubtractHalves_53 rfl (lv_at hl 2 rfl) ?_
  refine lv_iload_n hx hb dX3_addAndSubtractHalves_54 rfl (lv_at hl 3 rfl) ?_
  refine lv_iadd hx hb dX3_addAndSubtractHalves_55 ?_
  refine cx_top (y := 2) (by decide) ?_
  refine lv_iload_n hx hb dX3_addAndSubtractHalves_56 rfl (lv_at hl 1 rfl) ?_
  refine lv_iload hx hb dX3_addAndSubtractHalves_57 (lv_at hl 0 rfl) ?_
  refine lv_isub hx hb dX3_addAndSubtractHalves_59 ?_
  refine cx_iast (k := 2) hx hb hK hP (hD _ _) hS 9 1 cw_9 rfl (by decide) (by decide) cw_R19 dX3_addAndSubtractHalves_60 (fun H locs hP hS => ?_)
  refine lv_iinc (k := 2) (v := (nI 1)) (lv' := [(2, .int (nI 1)), (4, .int (((R 19) 2) + ((R 19) 6))), (3, .int (((R 19) 0) + ((R 19) 4))), (1, .int 2), (0, .ref (ad 0))]) hx hb dX3_addAndSubtractHalves_61 hl rfl (nI_add 0 1) (by decide) rfl (fun ls hl => ?_)
  refine lv_goto (tgt := 8) hx hb dX3_addAndSubtractHalves_64 (by decide) ?_
  refine lv_iload_n hx hb dX3_addAndSubtractHalves_8 rfl (lv_at hl 0 rfl) ?_
  refine lv_iload_n hx hb dX3_addAndSubtractHalves_9 rfl (lv_at hl 3 rfl) ?_
  refine lv_iadd hx hb dX3_addAndSubtractHalves_10 ?_
  refine cx_top (y := 3) (by decide) ?_
  refine lv_bipush (v := 8) hx hb dX3_addAndSubtractHalves_11 (by decide) ?_
  refine lv_icmp_ge (tgt := 67) hx hb dX3_addAndSubtractHalves_13 (by decide) (fun c_13 => absurd c_13 (by decide)) (fun c_13 => ?_)
  refine lv_iload_n hx hb dX3_addAndSubtractHalves_16 rfl (lv_at hl 0 rfl) ?_
  refine lv_iload_n hx hb dX3_addAndSubtractHalves_17 rfl (lv_at hl 3 rfl) ?_
  refine lv_iand hx hb dX3_addAndSubtractHalves_18 ?_
  refine cx_top (y := 0) (by decide) ?_
  refine lv_if_ne (tgt := 61) hx hb dX3_addAndSubtractHalves_19 (by decide) (fun c_19 => absurd c_19 (by decide)) (fun c_19 => ?_)
  refine lv_aload_n hx hb dX3_addAndSubtractHalves_22 rfl (lv_at hl 4 rfl) ?_
  refine va_get (D := D) (ci := 3) (v := .ref (ad 9)) (C := RX3) (T := TX3) (N := 6) hx hb hts hinX3 hown hK hP 0 cw_0 rfl 5 (by decide) (hts (.fieldLink RX3 38 "SquareGears" "row" "[I") (by decide +kernel)) (fun _ h9 => h9) rfl dX3_addAndSubtractHalves_23 ?_
  refine lv_iload_n hx hb dX3_addAndSubtractHalves_26 rfl (lv_at hl 0 rfl) ?_
  refine cx_iald (k := 1) hx hb hK hP 9 1 cw_9 rfl (by omega) (by decide) dX3_addAndSubtractHalves_27 ?_
  refine cx_top (y := (((R 19) 1) + ((R 19) 5))) rfl ?_
  refine lv_istore_n (lv' := [(3, .int (((R 19) 1) + ((R 19) 5))), (2, .int (nI 1)), (4, .int (((R 19) 2) + ((R 19) 6))), (1, .int 2), (0, .ref (ad 0))]) hx hb dX3_addAndSubtractHalves_28 rfl hl (by decide) rfl (fun ls hl => ?_)
  refine lv_aload_n hx hb dX3_addAndSubtractHalves_29 rfl (lv_at hl 4 rfl) ?_
  refine va_get (D := D) (ci := 3) (v := .ref (ad 9)) (C := RX3) (T := TX3) (N := 6) hx hb hts hinX3 hown hK hP 0 cw_0 rfl 5 (by decide) (hts (.fieldLink RX3 38 "SquareGears" "row" "[I") (by decide +kernel)) (fun _ h9 => h9) rfl dX3_addAndSubtractHalves_30 ?_
  refine lv_iload_n hx hb dX3_addAndSubtractHalves_33 rfl (lv_at hl 1 rfl) ?_
  refine lv_iload_n hx hb dX3_addAndSubtractHalves_34 rfl (lv_at hl 3 rfl) ?_
  refine lv_iadd hx hb dX3_addAndSubtractHalves_35 ?_
  refine cx_top (y := 3) (by decide) ?_
  refine cx_iald (k := 3) hx hb hK hP 9 1 cw_9 rfl (by decide) (by decide) dX3_addAndSubtractHalves_36 ?_
  refine cx_top (y := (((R 19) 3) + ((R 19) 7))) rfl ?_
  refine lv_istore (lv' := [(4, .int (((R 19) 3) + ((R 19) 7))), (3, .int (((R 19) 1) + ((R 19) 5))), (2, .int (nI 1)), (1, .int 2), (0, .ref (ad 0))]) hx hb dX3_addAndSubtractHalves_37 hl (by decide) rfl (fun ls hl => ?_)
  refine lv_aload_n hx hb dX3_addAndSubtractHalves_39 rfl (lv_at hl 4 rfl) ?_
  refine va_get (D := D) (ci := 3) (v := .ref (ad 9)) (C := RX3) (T := TX3) (N := 6) hx hb hts hinX3 hown hK hP 0 cw_0 rfl 5 (by decide) (hts (.fieldLink RX3 38 "SquareGears" "row" "[I") (by decide +kernel)) (fun _ h9 => h9) rfl dX3_addAndSubtractHalves_40 ?_
  refine lv_iload_n hx hb dX3_addAndSubtractHalves_43 rfl (lv_at hl 2 rfl) ?_
  refine lv_iload_n hx hb dX3_addAndSubtractHalves_44 rfl (lv_at hl 1 rfl) ?_
  refine lv_iload hx hb dX3_addAndSubtractHalves_45 (lv_at hl 0 rfl) ?_
  refine lv_iadd hx hb dX3_addAndSubtractHalves_47 ?_
  refine cx_iast (k := 1) hx hb hK hP (hD _ _) hS 9 1 cw_9 rfl (by omega) (by decide) cw_R19 dX3_addAndSubtractHalves_48 (fun H locs hP hS => ?_)
  refine lv_aload_n hx hb dX3_addAndSubtractHalves_49 rfl (lv_at hl 4 rfl) ?_
  refine va_get (D := D) (ci := 3) (v := .ref (ad 9)) (C := RX3) (T := TX3) (N := 6) hx hb hts hinX3 hown hK hP 0 cw_0 rfl 5 (by decide) (hts (.fieldLink RX3 38 "SquareGears" "row" "[I") (by decide +kernel)) (fun _ h9 => h9) rfl dX3_addAndSubtractHalves_50 ?_
  refine lv_iload_n hx hb dX3_addAndSubtractHalves_53 rfl (lv_at hl 2 rfl) ?_
  refine lv_iload_n hx hb dX3_addAndSubtractHalves_54 rfl (lv_at hl 3 rfl) ?_
  refine lv_iadd hx hb dX3_addAndSubtractHalves_55 ?_
  refine cx_top (y := 3) (by decide) ?_
  refine lv_iload_n hx hb dX3_addAndSubtractHalves_56 rfl (lv_at hl 1 rfl) ?_
  refine lv_iload hx hb dX3_addAndSubtractHalves_57 (lv_at hl 0 rfl) ?_
  refine lv_isub hx hb dX3_addAndSubtractHalves_59 ?_
  refine cx_iast (k := 3) hx hb hK hP (hD _ _) hS 9 1 cw_9 rfl (by decide) (by decide) cw_R19 dX3_addAndSubtractHalves_60 (fun H locs hP hS => ?_)
  refine lv_iinc (k := 2) (v := (nI 2)) (lv' := [(2, .int (nI 2)), (4, .int (((R 19) 3) + ((R 19) 7))), (3, .int (((R 19) 1) + ((R 19) 5))), (1, .int 2), (0, .ref (ad 0))]) hx hb dX3_addAndSubtractHalves_61 hl rfl (nI_add 1 1) (by decide) rfl (fun ls hl => ?_)
  refine lv_goto (tgt := 8) hx hb dX3_addAndSubtractHalves_64 (by decide) ?_
  refine lv_iload_n hx hb dX3_addAndSubtractHalves_8 rfl (lv_at hl 0 rfl) ?_
  refine lv_iload_n hx hb dX3_addAndSubtractHalves_9 rfl (lv_at hl 3 rfl) ?_
  refine lv_iadd hx hb dX3_addAndSubtractHalves_10 ?_
  refine cx_top (y := 4) (by decide) ?_
  refine lv_bipush (v := 8) hx hb dX3_addAndSubtractHalves_11 (by decide) ?_
  refine lv_icmp_ge (tgt := 67) hx hb dX3_addAndSubtractHalves_13 (by decide) (fun c_13 => absurd c_13 (by decide)) (fun c_13 => ?_)
  refine lv_iload_n hx hb dX3_addAndSubtractHalves_16 rfl (lv_at hl 0 rfl) ?_
  refine lv_iload_n hx hb dX3_addAndSubtractHalves_17 rfl (lv_at hl 3 rfl) ?_
  refine lv_iand hx hb dX3_addAndSubtractHalves_18 ?_
  refine cx_top (y := 2) (by decide) ?_
  refine lv_if_ne (tgt := 61) hx hb dX3_addAndSubtractHalves_19 (by decide) (fun c_19 => ?_) (fun c_19 => absurd c_19 (by decide))
  refine lv_iinc (k := 0) (v := (nI 3)) (lv' := [(2, .int (nI 3)), (4, .int (((R 19) 3) + ((R 19) 7))), (3, .int (((R 19) 1) + ((R 19) 5))), (1, .int 2), (0, .ref (ad 0))]) hx hb dX3_addAndSubtractHalves_61 hl rfl (nI_add 2 1) (by decide) rfl (fun ls hl => ?_)
  refine lv_goto (tgt := 8) hx hb dX3_addAndSubtractHalves_64 (by decide) ?_
  refine lv_iload_n hx hb dX3_addAndSubtractHalves_8 rfl (lv_at hl 0 rfl) ?_
  refine lv_iload_n hx hb dX3_addAndSubtractHalves_9 rfl (lv_at hl 3 rfl) ?_
  refine lv_iadd hx hb dX3_addAndSubtractHalves_10 ?_
  refine cx_top (y := 5) (by decide) ?_
  refine lv_bipush (v := 8) hx hb dX3_addAndSubtractHalves_11 (by decide) ?_
  refine lv_icmp_ge (tgt := 67) hx hb dX3_addAndSubtractHalves_13 (by decide) (fun c_13 => absurd c_13 (by decide)) (fun c_13 => ?_)
  refine lv_iload_n hx hb dX3_addAndSubtractHalves_16 rfl (lv_at hl 0 rfl) ?_
  refine lv_iload_n hx hb dX3_addAndSubtractHalves_17 rfl (lv_at hl 3 rfl) ?_
  refine lv_iand hx hb dX3_addAndSubtractHalves_18 ?_
  refine cx_top (y := 2) (by decide) ?_
  refine lv_if_ne (tgt := 61) hx hb dX3_addAndSubtractHalves_19 (by decide) (fun c_19 => ?_) (fun c_19 => absurd c_19 (by decide))
  refine lv_iinc (k := 0) (v := (nI 4)) (lv' := [(2, .int (nI 4)), (4, .int (((R 19) 3) + ((R 19) 7))), (3, .int (((R 19) 1) + ((R 19) 5))), (1, .int 2), (0, .ref (ad 0))]) hx hb dX3_addAndSubtractHalves_61 hl rfl (nI_add 3 1) (by decide) rfl (fun ls hl => ?_)
  refine lv_goto (tgt := 8) hx hb dX3_addAndSubtractHalves_64 (by decide) ?_
  refine lv_iload_n hx hb dX3_addAndSubtractHalves_8 rfl (lv_at hl 0 rfl) ?_
  refine lv_iload_n hx hb dX3_addAndSubtractHalves_9 rfl (lv_at hl 3 rfl) ?_
  refine lv_iadd hx hb dX3_addAndSubtractHalves_10 ?_
  refine cx_top (y := 6) (by decide) ?_
  refine lv_bipush (v := 8) hx hb dX3_addAndSubtractHalves_11 (by decide) ?_
  refine lv_icmp_ge (tgt := 67) hx hb dX3_addAndSubtractHalves_13 (by decide) (fun c_13 => absurd c_13 (by decide)) (fun c_13 => ?_)
  refine lv_iload_n hx hb dX3_addAndSubtractHalves_16 rfl (lv_at hl 0 rfl) ?_
  refine lv_iload_n hx hb dX3_addAndSubtractHalves_17 rfl (lv_at hl 3 rfl) ?_
  refine lv_iand hx hb dX3_addAndSubtractHalves_18 ?_
  refine cx_top (y := 0) (by decide) ?_
  refine lv_if_ne (tgt := 61) hx hb dX3_addAndSubtractHalves_19 (by decide) (fun c_19 => absurd c_19 (by decide)) (fun c_19 => ?_)
  refine lv_aload_n hx hb dX3_addAndSubtractHalves_22 rfl (lv_at hl 4 rfl) ?_
  refine va_get (D := D) (ci := 3) (v := .ref (ad 9)) (C := RX3) (T := TX3) (N := 6) hx hb hts hinX3 hown hK hP 0 cw_0 rfl 5 (by decide) (hts (.fieldLink RX3 38 "SquareGears" "row" "[I") (by decide +kernel)) (fun _ h9 => h9) rfl dX3_addAndSubtractHalves_23 ?_
  refine lv_iload_n hx hb dX3_addAndSubtractHalves_26 rfl (lv_at hl 0 rfl) ?_
  refine cx_iald (k := 4) hx hb hK hP 9 1 cw_9 rfl (by omega) (by decide) dX3_addAndSubtractHalves_27 ?_
  refine cx_top (y := (((R 19) 0) - ((R 19) 4))) rfl ?_
  refine lv_istore_n (lv' := [(3, .int (((R 19) 0) - ((R 19) 4))), (2, .int (nI 4)), (4, .int (((R 19) 3) + ((R 19) 7))), (1, .int 2), (0, .ref (ad 0))]) hx hb dX3_addAndSubtractHalves_28 rfl hl (by decide) rfl (fun ls hl => ?_)
  refine lv_aload_n hx hb dX3_addAndSubtractHalves_29 rfl (lv_at hl 4 rfl) ?_
  refine va_get (D := D) (ci := 3) (v := .ref (ad 9)) (C := RX3) (T := TX3) (N := 6) hx hb hts hinX3 hown hK hP 0 cw_0 rfl 5 (by decide) (hts (.fieldLink RX3 38 "SquareGears" "row" "[I") (by decide +kernel)) (fun _ h9 => h9) rfl dX3_addAndSubtractHalves_30 ?_
  refine lv_iload_n hx hb dX3_addAndSubtractHalves_33 rfl (lv_at hl 1 rfl) ?_
  refine lv_iload_n hx hb dX3_addAndSubtractHalves_34 rfl (lv_at hl 3 rfl) ?_
  refine lv_iadd hx hb dX3_addAndSubtractHalves_35 ?_
  refine cx_top (y := 6) (by decide) ?_
  refine cx_iald (k := 6) hx hb hK hP 9 1 cw_9 rfl (by decide) (by decide) dX3_addAndSubtractHalves_36 ?_
  refine cx_top (y := (((R 19) 2) - ((R 19) 6))) rfl ?_
  refine lv_istore (lv' := [(4, .int (((R 19) 2) - ((R 19) 6))), (3, .int (((R 19) 0) - ((R 19) 4))), (2, .int (nI 4)), (1, .int 2), (0, .ref (ad 0))]) hx hb dX3_addAndSubtractHalves_37 hl (by decide) rfl (fun ls hl => ?_)
  refine lv_aload_n hx hb dX3_addAndSubtractHalves_39 rfl (lv_at hl 4 rfl) ?_
  refine va_get (D := D) (ci := 3) (v := .ref (ad 9)) (C := RX3) (T := TX3) (N := 6) hx hb hts hinX3 hown hK hP 0 cw_0 rfl 5 (by decide) (hts (.fieldLink RX3 38 "SquareGears" "row" "[I") (by decide +kernel)) (fun _ h9 => h9) rfl dX3_addAndSubtractHalves_40 ?_
  refine lv_iload_n hx hb dX3_addAndSubtractHalves_43 rfl (lv_at hl 2 rfl) ?_
  refine lv_iload_n hx hb dX3_addAndSubtractHalves_44 rfl (lv_at hl 1 rfl) ?_
  refine lv_iload hx hb dX3_addAndSubtractHalves_45 (lv_at hl 0 rfl) ?_
  refine lv_iadd hx hb dX3_addAndSubtractHalves_47 ?_
  refine cx_iast (k := 4) hx hb hK hP (hD _ _) hS 9 1 cw_9 rfl (by omega) (by decide) cw_R19 dX3_addAndSubtractHalves_48 (fun H locs hP hS => ?_)
  refine lv_aload_n hx hb dX3_addAndSubtractHalves_49 rfl (lv_at hl 4 rfl) ?_
  refine va_get (D := D) (ci := 3) (v := .ref (ad 9)) (C := RX3) (T := TX3) (N := 6) hx hb hts hinX3 hown hK hP 0 cw_0 rfl 5 (by decide) (hts (.fieldLink RX3 38 "SquareGears" "row" "[I") (by decide +kernel)) (fun _ h9 => h9) rfl dX3_addAndSubtractHalves_50 ?_
  refine lv_iload_n hx hb dX3_addAndSubtractHalves_53 rfl (lv_at hl 2 rfl) ?_
  refine lv_iload_n hx hb dX3_addAndSubtractHalves_54 rfl (lv_at hl 3 rfl) ?_
  refine lv_iadd hx hb dX3_addAndSubtractHalves_55 ?_
  refine cx_top (y := 6) (by decide) ?_
  refine lv_iload_n hx hb dX3_addAndSubtractHalves_56 rfl (lv_at hl 1 rfl) ?_
  refine lv_iload hx hb dX3_addAndSubtractHalves_57 (lv_at hl 0 rfl) ?_
  refine lv_isub hx hb dX3_addAndSubtractHalves_59 ?_
  refine cx_iast (k := 6) hx hb hK hP (hD _ _) hS 9 1 cw_9 rfl (by decide) (by decide) cw_R19 dX3_addAndSubtractHalves_60 (fun H locs hP hS => ?_)
  refine lv_iinc (k := 2) (v := (nI 5)) (lv' := [(2, .int (nI 5)), (4, .int (((R 19) 2) - ((R 19) 6))), (3, .int (((R 19) 0) - ((R 19) 4))), (1, .int 2), (0, .ref (ad 0))]) hx hb dX3_addAndSubtractHalves_61 hl rfl (nI_add 4 1) (by decide) rfl (fun ls hl => ?_)
  refine lv_goto (tgt := 8) hx hb dX3_addAndSubtractHalves_64 (by decide) ?_
  refine lv_iload_n hx hb dX3_addAndSubtractHalves_8 rfl (lv_at hl 0 rfl) ?_
  refine lv_iload_n hx hb dX3_addAndSubtractHalves_9 rfl (lv_at hl 3 rfl) ?_
  refine lv_iadd hx hb dX3_addAndSubtractHalves_10 ?_
  refine cx_top (y := 7) (by decide) ?_
  refine lv_bipush (v := 8) hx hb dX3_addAndSubtractHalves_11 (by decide) ?_
  refine lv_icmp_ge (tgt := 67) hx hb dX3_addAndSubtractHalves_13 (by decide) (fun c_13 => absurd c_13 (by decide)) (fun c_13 => ?_)
  refine lv_iload_n hx hb dX3_addAndSubtractHalves_16 rfl (lv_at hl 0 rfl) ?_
  refine lv_iload_n hx hb dX3_addAndSubtractHalves_17 rfl (lv_at hl 3 rfl) ?_
  refine lv_iand hx hb dX3_addAndSubtractHalves_18 ?_
  refine cx_top (y := 0) (by decide) ?_
  refine lv_if_ne (tgt := 61) hx hb dX3_addAndSubtractHalves_19 (by decide) (fun c_19 => absurd c_19 (by decide)) (fun c_19 => ?_)
  refine lv_aload_n hx hb dX3_addAndSubtractHalves_22 rfl (lv_at hl 4 rfl) ?_
  refine va_get (D := D) (ci := 3) (v := .ref (ad 9)) (C := RX3) (T := TX3) (N := 6) hx hb hts hinX3 hown hK hP 0 cw_0 rfl 5 (by decide) (hts (.fieldLink RX3 38 "SquareGears" "row" "[I") (by decide +kernel)) (fun _ h9 => h9) rfl dX3_addAndSubtractHalves_23 ?_
  refine lv_iload_n hx hb dX3_addAndSubtractHalves_26 rfl (lv_at hl 0 rfl) ?_
  refine cx_iald (k := 5) hx hb hK hP 9 1 cw_9 rfl (by omega) (by decide) dX3_addAndSubtractHalves_27 ?_
  refine cx_top (y := (((R 19) 1) - ((R 19) 5))) rfl ?_
  refine lv_istore_n (lv' := [(3, .int (((R 19) 1) - ((R 19) 5))), (2, .int (nI 5)), (4, .int (((R 19) 2) - ((R 19) 6))), (1, .int 2), (0, .ref (ad 0))]) hx hb dX3_addAndSubtractHalves_28 rfl hl (by decide) rfl (fun ls hl => ?_)
  refine lv_aload_n hx hb dX3_addAndSubtractHalves_29 rfl (lv_at hl 4 rfl) ?_
  refine va_get (D := D) (ci := 3) (v := .ref (ad 9)) (C := RX3) (T := TX3) (N := 6) hx hb hts hinX3 hown hK hP 0 cw_0 rfl 5 (by decide) (hts (.fieldLink RX3 38 "SquareGears" "row" "[I") (by decide +kernel)) (fun _ h9 => h9) rfl dX3_addAndSubtractHalves_30 ?_
  refine lv_iload_n hx hb dX3_addAndSubtractHalves_33 rfl (lv_at hl 1 rfl) ?_
  refine lv_iload_n hx hb dX3_addAndSubtractHalves_34 rfl (lv_at hl 3 rfl) ?_
  refine lv_iadd hx hb dX3_addAndSubtractHalves_35 ?_
  refine cx_top (y := 7) (by decide) ?_
  refine cx_iald (k := 7) hx hb hK hP 9 1 cw_9 rfl (by decide) (by decide) dX3_addAndSubtractHalves_36 ?_
  refine cx_top (y := (((R 19) 3) - ((R 19) 7))) rfl ?_
  refine lv_istore (lv' := [(4, .int (((R 19) 3) - ((R 19) 7))), (3, .int (((R 19) 1) - ((R 19) 5))), (2, .int (nI 5)), (1, .int 2), (0, .ref (ad 0))]) hx hb dX3_addAndSubtractHalves_37 hl (by decide) rfl (fun ls hl => ?_)
  refine lv_aload_n hx hb dX3_addAndSubtractHalves_39 rfl (lv_at hl 4 rfl) ?_
  refine va_get (D := D) (ci := 3) (v := .ref (ad 9)) (C := RX3) (T := TX3) (N := 6) hx hb hts hinX3 hown hK hP 0 cw_0 rfl 5 (by decide) (hts (.fieldLink RX3 38 "SquareGears" "row" "[I") (by decide +kernel)) (fun _ h9 => h9) rfl dX3_addAndSubtractHalves_40 ?_
  refine lv_iload_n hx hb dX3_addAndSubtractHalves_43 rfl (lv_at hl 2 rfl) ?_
  refine lv_iload_n hx hb dX3_addAndSubtractHalves_44 rfl (lv_at hl 1 rfl) ?_
  refine lv_iload hx hb dX3_addAndSubtractHalves_45 (lv_at hl 0 rfl) ?_
  refine lv_iadd hx hb dX3_addAndSubtractHalves_47 ?_
  refine cx_iast (k := 5) hx hb hK hP (hD _ _) hS 9 1 cw_9 rfl (by omega) (by decide) cw_R19 dX3_addAndSubtractHalves_48 (fun H locs hP hS => ?_)
  refine lv_aload_n hx hb dX3_addAndSubtractHalves_49 rfl (lv_at hl 4 rfl) ?_
  refine va_get (D := D) (ci := 3) (v := .ref (ad 9)) (C := RX3) (T := TX3) (N := 6) hx hb hts hinX3 hown hK hP 0 cw_0 rfl 5 (by decide) (hts (.fieldLink RX3 38 "SquareGears" "row" "[I") (by decide +kernel)) (fun _ h9 => h9) rfl dX3_addAndSubtractHalves_50 ?_
  refine lv_iload_n hx hb dX3_addAndSubtractHalves_53 rfl (lv_at hl 2 rfl) ?_
  refine lv_iload_n hx hb dX3_addAndSubtractHalves_54 rfl (lv_at hl 3 rfl) ?_
  refine lv_iadd hx hb dX3_addAndSubtractHalves_55 ?_
  refine cx_top (y := 7) (by decide) ?_
  refine lv_iload_n hx hb dX3_addAndSubtractHalves_56 rfl (lv_at hl 1 rfl) ?_
  refine lv_iload hx hb dX3_addAndSubtractHalves_57 (lv_at hl 0 rfl) ?_
  refine lv_isub hx hb dX3_addAndSubtractHalves_59 ?_
  refine cx_iast (k := 7) hx hb hK hP (hD _ _) hS 9 1 cw_9 rfl (by decide) (by decide) cw_R19 dX3_addAndSubtractHalves_60 (fun H locs hP hS => ?_)
  refine lv_iinc (k := 2) (v := (nI 6)) (lv' := [(2, .int (nI 6)), (4, .int (((R 19) 3) - ((R 19) 7))), (3, .int (((R 19) 1) - ((R 19) 5))), (1, .int 2), (0, .ref (ad 0))]) hx hb dX3_addAndSubtractHalves_61 hl rfl (nI_add 5 1) (by decide) rfl (fun ls hl => ?_)
  refine lv_goto (tgt := 8) hx hb dX3_addAndSubtractHalves_64 (by decide) ?_
  refine lv_iload_n hx hb dX3_addAndSubtractHalves_8 rfl (lv_at hl 0 rfl) ?_
  refine lv_iload_n hx hb dX3_addAndSubtractHalves_9 rfl (lv_at hl 3 rfl) ?_
  refine lv_iadd hx hb dX3_addAndSubtractHalves_10 ?_
  refine cx_top (y := 8) (by decide) ?_
  refine lv_bipush (v := 8) hx hb dX3_addAndSubtractHalves_11 (by decide) ?_
  refine lv_icmp_ge (tgt := 67) hx hb dX3_addAndSubtractHalves_13 (by decide) (fun c_13 => ?_) (fun c_13 => absurd c_13 (by decide))
  refine lv_iload_n hx hb dX3_addAndSubtractHalves_67 rfl (lv_at hl 3 rfl) ?_
  refine lv_iconst (v := 2) hx hb dX3_addAndSubtractHalves_68 (by decide) ?_
  refine lv_idiv hx hb dX3_addAndSubtractHalves_69 (by decide) ?_
  refine cx_top (y := 1) (by decide) ?_
  refine lv_istore_n (lv' := [(1, .int 1), (2, .int (nI 6)), (4, .int (((R 19) 3) - ((R 19) 7))), (3, .int (((R 19) 1) - ((R 19) 5))), (0, .ref (ad 0))]) hx hb dX3_addAndSubtractHalves_70 rfl hl (by decide) rfl (fun ls hl => ?_)
  refine lv_goto (tgt := 2) hx hb dX3_addAndSubtractHalves_71 (by decide) ?_
  refine lv_iload_n hx hb dX3_addAndSubtractHalves_2 rfl (lv_at hl 0 rfl) ?_
  refine lv_if_le (tgt := 74) hx hb dX3_addAndSubtractHalves_3 (by decide) (fun c_3 => absurd c_3 (by decide)) (fun c_3 => ?_)
  refine lv_iconst (v := 0) hx hb dX3_addAndSubtractHalves_6 (by decide) ?_
  refine lv_istore_n (lv' := [(2, .int 0), (1, .int 1), (4, .int (((R 19) 3) - ((R 19) 7))), (3, .int (((R 19) 1) - ((R 19) 5))), (0, .ref (ad 0))]) hx hb dX3_addAndSubtractHalves_7 rfl hl (by decide) rfl (fun ls hl => ?_)
  refine lv_iload_n hx hb dX3_addAndSubtractHalves_8 rfl (lv_at hl 0 rfl) ?_
  refine lv_iload_n hx hb dX3_addAndSubtractHalves_9 rfl (lv_at hl 1 rfl) ?_
  refine lv_iadd hx hb dX3_addAndSubtractHalves_10 ?_
  refine cx_top (y := 1) (by decide) ?_
  refine lv_bipush (v := 8) hx hb dX3_addAndSubtractHalves_11 (by decide) ?_
  refine lv_icmp_ge (tgt := 67) hx hb dX3_addAndSubtractHalves_13 (by decide) (fun c_13 => absurd c_13 (by decide)) (fun c_13 => ?_)
  refine lv_iload_n hx hb dX3_addAndSubtractHalves_16 rfl (lv_at hl 0 rfl) ?_
  refine lv_iload_n hx hb dX3_addAndSubtractHalves_17 rfl (lv_at hl 1 rfl) ?_
  refine lv_iand hx hb dX3_addAndSubtractHalves_18 ?_
  refine cx_top (y := 0) (by decide) ?_
  refine lv_if_ne (tgt := 61) hx hb dX3_addAndSubtractHalves_19 (by decide) (fun c_19 => absurd c_19 (by decide)) (fun c_19 => ?_)
  refine lv_aload_n hx hb dX3_addAndSubtractHalves_22 rfl (lv_at hl 4 rfl) ?_
  refine va_get (D := D) (ci := 3) (v := .ref (ad 9)) (C := RX3) (T := TX3) (N := 6) hx hb hts hinX3 hown hK hP 0 cw_0 rfl 5 (by decide) (hts (.fieldLink RX3 38 "SquareGears" "row" "[I") (by decide +kernel)) (fun _ h9 => h9) rfl dX3_addAndSubtractHalves_23 ?_
  refine lv_iload_n hx hb dX3_addAndSubtractHalves_26 rfl (lv_at hl 0 rfl) ?_
  refine cx_iald (k := 0) hx hb hK hP 9 1 cw_9 rfl (by decide) (by decide) dX3_addAndSubtractHalves_27 ?_
  refine cx_top (y := ((((R 19) 0) + ((R 19) 4)) + (((R 19) 2) + ((R 19) 6)))) rfl ?_
  refine lv_istore_n (lv' := [(3, .int ((((R 19) 0) + ((R 19) 4)) + (((R 19) 2) + ((R 19) 6)))), (2, .int 0), (1, .int 1), (4, .int (((R 19) 3) - ((R 19) 7))), (0, .ref (ad 0))]) hx hb dX3_addAndSubtractHalves_28 rfl hl (by decide) rfl (fun ls hl => ?_)
  refine lv_aload_n hx hb dX3_addAndSubtractHalves_29 rfl (lv_at hl 4 rfl) ?_
  refine va_get (D := D) (ci := 3) (v := .ref (ad 9)) (C := RX3) (T := TX3) (N := 6) hx hb hts hinX3 hown hK hP 0 cw_0 rfl 5 (by decide) (hts (.fieldLink RX3 38 "SquareGears" "row" "[I") (by decide +kernel)) (fun _ h9 => h9) rfl dX3_addAndSubtractHalves_30 ?_
  refine lv_iload_n hx hb dX3_addAndSubtractHalves_33 rfl (lv_at hl 1 rfl) ?_
  refine lv_iload_n hx hb dX3_addAndSubtractHalves_34 rfl (lv_at hl 2 rfl) ?_
  refine lv_iadd hx hb dX3_addAndSubtractHalves_35 ?_
  refine cx_top (y := 1) (by decide) ?_
  refine cx_iald (k := 1) hx hb hK hP 9 1 cw_9 rfl (by decide) (by decide) dX3_addAndSubtractHalves_36 ?_
  refine cx_top (y := ((((R 19) 1) + ((R 19) 5)) + (((R 19) 3) + ((R 19) 7)))) rfl ?_
  refine lv_istore (lv' := [(4, .int ((((R 19) 1) + ((R 19) 5)) + (((R 19) 3) + ((R 19) 7)))), (3, .int ((((R 19) 0) + ((R 19) 4)) + (((R 19) 2) + ((R 19) 6)))), (2, .int 0), (1, .int 1), (0, .ref (ad 0))]) hx hb dX3_addAndSubtractHalves_37 hl (by decide) rfl (fun ls hl => ?_)
  refine lv_aload_n hx hb dX3_addAndSubtractHalves_39 rfl (lv_at hl 4 rfl) ?_
  refine va_get (D := D) (ci := 3) (v := .ref (ad 9)) (C := RX3) (T := TX3) (N := 6) hx hb hts hinX3 hown hK hP 0 cw_0 rfl 5 (by decide) (hts (.fieldLink RX3 38 "SquareGears" "row" "[I") (by decide +kernel)) (fun _ h9 => h9) rfl dX3_addAndSubtractHalves_40 ?_
  refine lv_iload_n hx hb dX3_addAndSubtractHalves_43 rfl (lv_at hl 2 rfl) ?_
  refine lv_iload_n hx hb dX3_addAndSubtractHalves_44 rfl (lv_at hl 1 rfl) ?_
  refine lv_iload hx hb dX3_addAndSubtractHalves_45 (lv_at hl 0 rfl) ?_
  refine lv_iadd hx hb dX3_addAndSubtractHalves_47 ?_
  refine cx_iast (k := 0) hx hb hK hP (hD _ _) hS 9 1 cw_9 rfl (by decide) (by decide) cw_R19 dX3_addAndSubtractHalves_48 (fun H locs hP hS => ?_)
  refine lv_aload_n hx hb dX3_addAndSubtractHalves_49 rfl (lv_at hl 4 rfl) ?_
  refine va_get (D := D) (ci := 3) (v := .ref (ad 9)) (C := RX3) (T := TX3) (N := 6) hx hb hts hinX3 hown hK hP 0 cw_0 rfl 5 (by decide) (hts (.fieldLink RX3 38 "SquareGears" "row" "[I") (by decide +kernel)) (fun _ h9 => h9) rfl dX3_addAndSubtractHalves_50 ?_
  refine lv_iload_n hx hb dX3_addAndSubtractHalves_53 rfl (lv_at hl 2 rfl) ?_
  refine lv_iload_n hx hb dX3_addAndSubtractHalves_54 rfl (lv_at hl 3 rfl) ?_
  refine lv_iadd hx hb dX3_addAndSubtractHalves_55 ?_
  refine cx_top (y := 1) (by decide) ?_
  refine lv_iload_n hx hb dX3_addAndSubtractHalves_56 rfl (lv_at hl 1 rfl) ?_
  refine lv_iload hx hb dX3_addAndSubtractHalves_57 (lv_at hl 0 rfl) ?_
  refine lv_isub hx hb dX3_addAndSubtractHalves_59 ?_
  refine cx_iast (k := 1) hx hb hK hP (hD _ _) hS 9 1 cw_9 rfl (by decide) (by decide) cw_R19 dX3_addAndSubtractHalves_60 (fun H locs hP hS => ?_)
  refine lv_iinc (k := 2) (v := (nI 1)) (lv' := [(2, .int (nI 1)), (4, .int ((((R 19) 1) + ((R 19) 5)) + (((R 19) 3) + ((R 19) 7)))), (3, .int ((((R 19) 0) + ((R 19) 4)) + (((R 19) 2) + ((R 19) 6)))), (1, .int 1), (0, .ref (ad 0))]) hx hb dX3_addAndSubtractHalves_61 hl rfl (nI_add 0 1) (by decide) rfl (fun ls hl => ?_)
  refine lv_goto (tgt := 8) hx hb dX3_addAndSubtractHalves_64 (by decide) ?_
  refine lv_iload_n hx hb dX3_addAndSubtractHalves_8 rfl (lv_at hl 0 rfl) ?_
  refine lv_iload_n hx hb dX3_addAndSubtractHalves_9 rfl (lv_at hl 3 rfl) ?_
  refine lv_iadd hx hb dX3_addAndSubtractHalves_10 ?_
  refine cx_top (y := 2) (by decide) ?_
  refine lv_bipush (v := 8) hx hb dX3_addAndSubtractHalves_11 (by decide) ?_
  refine lv_icmp_ge (tgt := 67) hx hb dX3_addAndSubtractHalves_13 (by decide) (fun c_13 => absurd c_13 (by decide)) (fun c_13 => ?_)
  refine lv_iload_n hx hb dX3_addAndSubtractHalves_16 rfl (lv_at hl 0 rfl) ?_
  refine lv_iload_n hx hb dX3_addAndSubtractHalves_17 rfl (lv_at hl 3 rfl) ?_
  refine lv_iand hx hb dX3_addAndSubtractHalves_18 ?_
  refine cx_top (y := 1) (by decide) ?_
  refine lv_if_ne (tgt := 61) hx hb dX3_addAndSubtractHalves_19 (by decide) (fun c_19 => ?_) (fun c_19 => absurd c_19 (by decide))
  refine lv_iinc (k := 0) (v := (nI 2)) (lv' := [(2, .int (nI 2)), (4, .int ((((R 19) 1) + ((R 19) 5)) + (((R 19) 3) + ((R 19) 7)))), (3, .int ((((R 19) 0) + ((R 19) 4)) + (((R 19) 2) + ((R 19) 6)))), (1, .int 1), (0, .ref (ad 0))]) hx hb dX3_addAndSubtractHalves_61 hl rfl (nI_add 1 1) (by decide) rfl (fun ls hl => ?_)
  refine lv_goto (tgt := 8) hx hb dX3_addAndSubtractHalves_64 (by decide) ?_
  refine lv_iload_n hx hb dX3_addAndSubtractHalves_8 rfl (lv_at hl 0 rfl) ?_
  refine lv_iload_n hx hb dX3_addAndSubtractHalves_9 rfl (lv_at hl 3 rfl) ?_
  refine lv_iadd hx hb dX3_addAndSubtractHalves_10 ?_
  refine cx_top (y := 3) (by decide) ?_
  refine lv_bipush (v := 8) hx hb dX3_addAndSubtractHalves_11 (by decide) ?_
  refine lv_icmp_ge (tgt := 67) hx hb dX3_addAndSubtractHalves_13 (by decide) (fun c_13 => absurd c_13 (by decide)) (fun c_13 => ?_)
  refine lv_iload_n hx hb dX3_addAndSubtractHalves_16 rfl (lv_at hl 0 rfl) ?_
  refine lv_iload_n hx hb dX3_addAndSubtractHalves_17 rfl (lv_at hl 3 rfl) ?_
  refine lv_iand hx hb dX3_addAndSubtractHalves_18 ?_
  refine cx_top (y := 0) (by decide) ?_
  refine lv_if_ne (tgt := 61) hx hb dX3_addAndSubtractHalves_19 (by decide) (fun c_19 => absurd c_19 (by decide)) (fun c_19 => ?_)
  refine lv_aload_n hx hb dX3_addAndSubtractHalves_22 rfl (lv_at hl 4 rfl) ?_
  refine va_get (D := D) (ci := 3) (v := .ref (ad 9)) (C := RX3) (T := TX3) (N := 6) hx hb hts hinX3 hown hK hP 0 cw_0 rfl 5 (by decide) (hts (.fieldLink RX3 38 "SquareGears" "row" "[I") (by decide +kernel)) (fun _ h9 => h9) rfl dX3_addAndSubtractHalves_23 ?_
  refine lv_iload_n hx hb dX3_addAndSubtractHalves_26 rfl (lv_at hl 0 rfl) ?_
  refine cx_iald (k := 2) hx hb hK hP 9 1 cw_9 rfl (by omega) (by decide) dX3_addAndSubtractHalves_27 ?_
  refine cx_top (y := ((((R 19) 0) + ((R 19) 4)) - (((R 19) 2) + ((R 19) 6)))) rfl ?_
  refine lv_istore_n (lv' := [(3, .int ((((R 19) 0) + ((R 19) 4)) - (((R 19) 2) + ((R 19) 6)))), (2, .int (nI 2)), (4, .int ((((R 19) 1) + ((R 19) 5)) + (((R 19) 3) + ((R 19) 7)))), (1, .int 1), (0, .ref (ad 0))]) hx hb dX3_addAndSubtractHalves_28 rfl hl (by decide) rfl (fun ls hl => ?_)
  refine lv_aload_n hx hb dX3_addAndSubtractHalves_29 rfl (lv_at hl 4 rfl) ?_
  refine va_get (D := D) (ci := 3) (v := .ref (ad 9)) (C := RX3) (T := TX3) (N := 6) hx hb hts hinX3 hown hK hP 0 cw_0 rfl 5 (by decide) (hts (.fieldLink RX3 38 "SquareGears" "row" "[I") (by decide +kernel)) (fun _ h9 => h9) rfl dX3_addAndSubtractHalves_30 ?_
  refine lv_iload_n hx hb dX3_addAndSubtractHalves_33 rfl (lv_at hl 1 rfl) ?_
  refine lv_iload_n hx hb dX3_addAndSubtractHalves_34 rfl (lv_at hl 3 rfl) ?_
  refine lv_iadd hx hb dX3_addAndSubtractHalves_35 ?_
  refine cx_top (y := 3) (by decide) ?_
  refine cx_iald (k := 3) hx hb hK hP 9 1 cw_9 rfl (by decide) (by decide) dX3_addAndSubtractHalves_36 ?_
  refine cx_top (y := ((((R 19) 1) + ((R 19) 5)) - (((R 19) 3) + ((R 19) 7)))) rfl ?_
  refine lv_istore (lv' := [(4, .int ((((R 19) 1) + ((R 19) 5)) - (((R 19) 3) + ((R 19) 7)))), (3, .int ((((R 19) 0) + ((R 19) 4)) - (((R 19) 2) + ((R 19) 6)))), (2, .int (nI 2)), (1, .int 1), (0, .ref (ad 0))]) hx hb dX3_addAndSubtractHalves_37 hl (by decide) rfl (fun ls hl => ?_)
  refine lv_aload_n hx hb dX3_addAndSubtractHalves_39 rfl (lv_at hl 4 rfl) ?_
  refine va_get (D := D) (ci := 3) (v := .ref (ad 9)) (C := RX3) (T := TX3) (N := 6) hx hb hts hinX3 hown hK hP 0 cw_0 rfl 5 (by decide) (hts (.fieldLink RX3 38 "SquareGears" "row" "[I") (by decide +kernel)) (fun _ h9 => h9) rfl dX3_addAndSubtractHalves_40 ?_
  refine lv_iload_n hx hb dX3_addAndSubtractHalves_43 rfl (lv_at hl 2 rfl) ?_
  refine lv_iload_n hx hb dX3_addAndSubtractHalves_44 rfl (lv_at hl 1 rfl) ?_
  refine lv_iload hx hb dX3_addAndSubtractHalves_45 (lv_at hl 0 rfl) ?_
  refine lv_iadd hx hb dX3_addAndSubtractHalves_47 ?_
  refine cx_iast (k := 2) hx hb hK hP (hD _ _) hS 9 1 cw_9 rfl (by omega) (by decide) cw_R19 dX3_addAndSubtractHalves_48 (fun H locs hP hS => ?_)
  refine lv_aload_n hx hb dX3_addAndSubtractHalves_49 rfl (lv_at hl 4 rfl) ?_
  refine va_get (D := D) (ci := 3) (v := .ref (ad 9)) (C := RX3) (T := TX3) (N := 6) hx hb hts hinX3 hown hK hP 0 cw_0 rfl 5 (by decide) (hts (.fieldLink RX3 38 "SquareGears" "row" "[I") (by decide +kernel)) (fun _ h9 => h9) rfl dX3_addAndSubtractHalves_50 ?_
  refine lv_iload_n hx hb dX3_addAndSubtractHalves_53 rfl (lv_at hl 2 rfl) ?_
  refine lv_iload_n hx hb dX3_addAndSubtractHalves_54 rfl (lv_at hl 3 rfl) ?_
  refine lv_iadd hx hb dX3_addAndSubtractHalves_55 ?_
  refine cx_top (y := 3) (by decide) ?_
  refine lv_iload_n hx hb dX3_addAndSubtractHalves_56 rfl (lv_at hl 1 rfl) ?_
  refine lv_iload hx hb dX3_addAndSubtractHalves_57 (lv_at hl 0 rfl) ?_
  refine lv_isub hx hb dX3_addAndSubtractHalves_59 ?_
  refine cx_iast (k := 3) hx hb hK hP (hD _ _) hS 9 1 cw_9 rfl (by decide) (by decide) cw_R19 dX3_addAndSubtractHalves_60 (fun H locs hP hS => ?_)
  refine lv_iinc (k := 2) (v := (nI 3)) (lv' := [(2, .int (nI 3)), (4, .int ((((R 19) 1) + ((R 19) 5)) - (((R 19) 3) + ((R 19) 7)))), (3, .int ((((R 19) 0) + ((R 19) 4)) - (((R 19) 2) + ((R 19) 6)))), (1, .int 1), (0, .ref (ad 0))]) hx hb dX3_addAndSubtractHalves_61 hl rfl (nI_add 2 1) (by decide) rfl (fun ls hl => ?_)
  refine lv_goto (tgt := 8) hx hb dX3_addAndSubtractHalves_64 (by decide) ?_
  refine lv_iload_n hx hb dX3_addAndSubtractHalves_8 rfl (lv_at hl 0 rfl) ?_
  refine lv_iload_n hx hb dX3_addAndSubtractHalves_9 rfl (lv_at hl 3 rfl) ?_
  refine lv_iadd hx hb dX3_addAndSubtractHalves_10 ?_
  refine cx_top (y := 4) (by decide) ?_
  refine lv_bipush (v := 8) hx hb dX3_addAndSubtractHalves_11 (by decide) ?_
  refine lv_icmp_ge (tgt := 67) hx hb dX3_addAndSubtractHalves_13 (by decide) (fun c_13 => absurd c_13 (by decide)) (fun c_13 => ?_)
  refine lv_iload_n hx hb dX3_addAndSubtractHalves_16 rfl (lv_at hl 0 rfl) ?_
  refine lv_iload_n hx hb dX3_addAndSubtractHalves_17 rfl (lv_at hl 3 rfl) ?_
  refine lv_iand hx hb dX3_addAndSubtractHalves_18 ?_
  refine cx_top (y := 1) (by decide) ?_
  refine lv_if_ne (tgt := 61) hx hb dX3_addAndSubtractHalves_19 (by decide) (fun c_19 => ?_) (fun c_19 => absurd c_19 (by decide))
  refine lv_iinc (k := 0) (v := (nI 4)) (lv' := [(2, .int (nI 4)), (4, .int ((((R 19) 1) + ((R 19) 5)) - (((R 19) 3) + ((R 19) 7)))), (3, .int ((((R 19) 0) + ((R 19) 4)) - (((R 19) 2) + ((R 19) 6)))), (1, .int 1), (0, .ref (ad 0))]) hx hb dX3_addAndSubtractHalves_61 hl rfl (nI_add 3 1) (by decide) rfl (fun ls hl => ?_)
  refine lv_goto (tgt := 8) hx hb dX3_addAndSubtractHalves_64 (by decide) ?_
  refine lv_iload_n hx hb dX3_addAndSubtractHalves_8 rfl (lv_at hl 0 rfl) ?_
  refine lv_iload_n hx hb dX3_addAndSubtractHalves_9 rfl (lv_at hl 3 rfl) ?_
  refine lv_iadd hx hb dX3_addAndSubtractHalves_10 ?_
  refine cx_top (y := 5) (by decide) ?_
  refine lv_bipush (v := 8) hx hb dX3_addAndSubtractHalves_11 (by decide) ?_
  refine lv_icmp_ge (tgt := 67) hx hb dX3_addAndSubtractHalves_13 (by decide) (fun c_13 => absurd c_13 (by decide)) (fun c_13 => ?_)
  refine lv_iload_n hx hb dX3_addAndSubtractHalves_16 rfl (lv_at hl 0 rfl) ?_
  refine lv_iload_n hx hb dX3_addAndSubtractHalves_17 rfl (lv_at hl 3 rfl) ?_
  refine lv_iand hx hb dX3_addAndSubtractHalves_18 ?_
  refine cx_top (y := 0) (by decide) ?_
  refine lv_if_ne (tgt := 61) hx hb dX3_addAndSubtractHalves_19 (by decide) (fun c_19 => absurd c_19 (by decide)) (fun c_19 => ?_)
  refine lv_aload_n hx hb dX3_addAndSubtractHalves_22 rfl (lv_at hl 4 rfl) ?_
  refine va_get (D := D) (ci := 3) (v := .ref (ad 9)) (C := RX3) (T := TX3) (N := 6) hx hb hts hinX3 hown hK hP 0 cw_0 rfl 5 (by decide) (hts (.fieldLink RX3 38 "SquareGears" "row" "[I") (by decide +kernel)) (fun _ h9 => h9) rfl dX3_addAndSubtractHalves_23 ?_
  refine lv_iload_n hx hb dX3_addAndSubtractHalves_26 rfl (lv_at hl 0 rfl) ?_
  refine cx_iald (k := 4) hx hb hK hP 9 1 cw_9 rfl (by omega) (by decide) dX3_addAndSubtractHalves_27 ?_
  refine cx_top (y := ((((R 19) 0) - ((R 19) 4)) + (((R 19) 2) - ((R 19) 6)))) rfl ?_
  refine lv_istore_n (lv' := [(3, .int ((((R 19) 0) - ((R 19) 4)) + (((R 19) 2) - ((R 19) 6)))), (2, .int (nI 4)), (4, .int ((((R 19) 1) + ((R 19) 5)) - (((R 19) 3) + ((R 19) 7)))), (1, .int 1), (0, .ref (ad 0))]) hx hb dX3_addAndSubtractHalves_28 rfl hl (by decide) rfl (fun ls hl => ?_)
  refine lv_aload_n hx hb dX3_addAndSubtractHalves_29 rfl (lv_at hl 4 rfl) ?_
  refine va_get (D := D) (ci := 3) (v := .ref (ad 9)) (C := RX3) (T := TX3) (N := 6) hx hb hts hinX3 hown hK hP 0 cw_0 rfl 5 (by decide) (hts (.fieldLink RX3 38 "SquareGears" "row" "[I") (by decide +kernel)) (fun _ h9 => h9) rfl dX3_addAndSubtractHalves_30 ?_
  refine lv_iload_n hx hb dX3_addAndSubtractHalves_33 rfl (lv_at hl 1 rfl) ?_
  refine lv_iload_n hx hb dX3_addAndSubtractHalves_34 rfl (lv_at hl 3 rfl) ?_
  refine lv_iadd hx hb dX3_addAndSubtractHalves_35 ?_
  refine cx_top (y := 5) (by decide) ?_
  refine cx_iald (k := 5) hx hb hK hP 9 1 cw_9 rfl (by decide) (by decide) dX3_addAndSubtractHalves_36 ?_
  refine cx_top (y := ((((R 19) 1) - ((R 19) 5)) + (((R 19) 3) - ((R 19) 7)))) rfl ?_
  refine lv_istore (lv' := [(4, .int ((((R 19) 1) - ((R 19) 5)) + (((R 19) 3) - ((R 19) 7)))), (3, .int ((((R 19) 0) - ((R 19) 4)) + (((R 19) 2) - ((R 19) 6)))), (2, .int (nI 4)), (1, .int 1), (0, .ref (ad 0))]) hx hb dX3_addAndSubtractHalves_37 hl (by decide) rfl (fun ls hl => ?_)
  refine lv_aload_n hx hb dX3_addAndSubtractHalves_39 rfl (lv_at hl 4 rfl) ?_
  refine va_get (D := D) (ci := 3) (v := .ref (ad 9)) (C := RX3) (T := TX3) (N := 6) hx hb hts hinX3 hown hK hP 0 cw_0 rfl 5 (by decide) (hts (.fieldLink RX3 38 "SquareGears" "row" "[I") (by decide +kernel)) (fun _ h9 => h9) rfl dX3_addAndSubtractHalves_40 ?_
  refine lv_iload_n hx hb dX3_addAndSubtractHalves_43 rfl (lv_at hl 2 rfl) ?_
  refine lv_iload_n hx hb dX3_addAndSubtractHalves_44 rfl (lv_at hl 1 rfl) ?_
  refine lv_iload hx hb dX3_addAndSubtractHalves_45 (lv_at hl 0 rfl) ?_
  refine lv_iadd hx hb dX3_addAndSubtractHalves_47 ?_
  refine cx_iast (k := 4) hx hb hK hP (hD _ _) hS 9 1 cw_9 rfl (by omega) (by decide) cw_R19 dX3_addAndSubtractHalves_48 (fun H locs hP hS => ?_)
  refine lv_aload_n hx hb dX3_addAndSubtractHalves_49 rfl (lv_at hl 4 rfl) ?_
  refine va_get (D := D) (ci := 3) (v := .ref (ad 9)) (C := RX3) (T := TX3) (N := 6) hx hb hts hinX3 hown hK hP 0 cw_0 rfl 5 (by decide) (hts (.fieldLink RX3 38 "SquareGears" "row" "[I") (by decide +kernel)) (fun _ h9 => h9) rfl dX3_addAndSubtractHalves_50 ?_
  refine lv_iload_n hx hb dX3_addAndSubtractHalves_53 rfl (lv_at hl 2 rfl) ?_
  refine lv_iload_n hx hb dX3_addAndSubtractHalves_54 rfl (lv_at hl 3 rfl) ?_
  refine lv_iadd hx hb dX3_addAndSubtractHalves_55 ?_
  refine cx_top (y := 5) (by decide) ?_
  refine lv_iload_n hx hb dX3_addAndSubtractHalves_56 rfl (lv_at hl 1 rfl) ?_
  refine lv_iload hx hb dX3_addAndSubtractHalves_57 (lv_at hl 0 rfl) ?_
  refine lv_isub hx hb dX3_addAndSubtractHalves_59 ?_
  refine cx_iast (k := 5) hx hb hK hP (hD _ _) hS 9 1 cw_9 rfl (by decide) (by decide) cw_R19 dX3_addAndSubtractHalves_60 (fun H locs hP hS => ?_)
  refine lv_iinc (k := 2) (v := (nI 5)) (lv' := [(2, .int (nI 5)), (4, .int ((((R 19) 1) - ((R 19) 5)) + (((R 19) 3) - ((R 19) 7)))), (3, .int ((((R 19) 0) - ((R 19) 4)) + (((R 19) 2) - ((R 19) 6)))), (1, .int 1), (0, .ref (ad 0))]) hx hb dX3_addAndSubtractHalves_61 hl rfl (nI_add 4 1) (by decide) rfl (fun ls hl => ?_)
  refine lv_goto (tgt := 8) hx hb dX3_addAndSubtractHalves_64 (by decide) ?_
  refine lv_iload_n hx hb dX3_addAndSubtractHalves_8 rfl (lv_at hl 0 rfl) ?_
  refine lv_iload_n hx hb dX3_addAndSubtractHalves_9 rfl (lv_at hl 3 rfl) ?_
  refine lv_iadd hx hb dX3_addAndSubtractHalves_10 ?_
  refine cx_top (y := 6) (by decide) ?_
  refine lv_bipush (v := 8) hx hb dX3_addAndSubtractHalves_11 (by decide) ?_
  refine lv_icmp_ge (tgt := 67) hx hb dX3_addAndSubtractHalves_13 (by decide) (fun c_13 => absurd c_13 (by decide)) (fun c_13 => ?_)
  refine lv_iload_n hx hb dX3_addAndSubtractHalves_16 rfl (lv_at hl 0 rfl) ?_
  refine lv_iload_n hx hb dX3_addAndSubtractHalves_17 rfl (lv_at hl 3 rfl) ?_
  refine lv_iand hx hb dX3_addAndSubtractHalves_18 ?_
  refine cx_top (y := 1) (by decide) ?_
  refine lv_if_ne (tgt := 61) hx hb dX3_addAndSubtractHalves_19 (by decide) (fun c_19 => ?_) (fun c_19 => absurd c_19 (by decide))
  refine lv_iinc (k := 0) (v := (nI 6)) (lv' := [(2, .int (nI 6)), (4, .int ((((R 19) 1) - ((R 19) 5)) + (((R 19) 3) - ((R 19) 7)))), (3, .int ((((R 19) 0) - ((R 19) 4)) + (((R 19) 2) - ((R 19) 6)))), (1, .int 1), (0, .ref (ad 0))]) hx hb dX3_addAndSubtractHalves_61 hl rfl (nI_add 5 1) (by decide) rfl (fun ls hl => ?_)
  refine lv_goto (tgt := 8) hx hb dX3_addAndSubtractHalves_64 (by decide) ?_
  refine lv_iload_n hx hb dX3_addAndSubtractHalves_8 rfl (lv_at hl 0 rfl) ?_
  refine lv_iload_n hx hb dX3_addAndSubtractHalves_9 rfl (lv_at hl 3 rfl) ?_
  refine lv_iadd hx hb dX3_addAndSubtractHalves_10 ?_
  refine cx_top (y := 7) (by decide) ?_
  refine lv_bipush (v := 8) hx hb dX3_addAndSubtractHalves_11 (by decide) ?_
  refine lv_icmp_ge (tgt := 67) hx hb dX3_addAndSubtractHalves_13 (by decide) (fun c_13 => absurd c_13 (by decide)) (fun c_13 => ?_)
  refine lv_iload_n hx hb dX3_addAndSubtractHalves_16 rfl (lv_at hl 0 rfl) ?_
  refine lv_iload_n hx hb dX3_addAndSubtractHalves_17 rfl (lv_at hl 3 rfl) ?_
  refine lv_iand hx hb dX3_addAndSubtractHalves_18 ?_
  refine cx_top (y := 0) (by decide) ?_
  refine lv_if_ne (tgt := 61) hx hb dX3_addAndSubtractHalves_19 (by decide) (fun c_19 => absurd c_19 (by decide)) (fun c_19 => ?_)
  refine lv_aload_n hx hb dX3_addAndSubtractHalves_22 rfl (lv_at hl 4 rfl) ?_
  refine va_get (D := D) (ci := 3) (v := .ref (ad 9)) (C := RX3) (T := TX3) (N := 6) hx hb hts hinX3 hown hK hP 0 cw_0 rfl 5 (by decide) (hts (.fieldLink RX3 38 "SquareGears" "row" "[I") (by decide +kernel)) (fun _ h9 => h9) rfl dX3_addAndSubtractHalves_23 ?_
  refine lv_iload_n hx hb dX3_addAndSubtractHalves_26 rfl (lv_at hl 0 rfl) ?_
  refine cx_iald (k := 6) hx hb hK hP 9 1 cw_9 rfl (by omega) (by decide) dX3_addAndSubtractHalves_27 ?_
  refine cx_top (y := ((((R 19) 0) - ((R 19) 4)) - (((R 19) 2) - ((R 19) 6)))) rfl ?_
  refine lv_istore_n (lv' := [(3, .int ((((R 19) 0) - ((R 19) 4)) - (((R 19) 2) - ((R 19) 6)))), (2, .int (nI 6)), (4, .int ((((R 19) 1) - ((R 19) 5)) + (((R 19) 3) - ((R 19) 7)))), (1, .int 1), (0, .ref (ad 0))]) hx hb dX3_addAndSubtractHalves_28 rfl hl (by decide) rfl (fun ls hl => ?_)
  refine lv_aload_n hx hb dX3_addAndSubtractHalves_29 rfl (lv_at hl 4 rfl) ?_
  refine va_get (D := D) (ci := 3) (v := .ref (ad 9)) (C := RX3) (T := TX3) (N := 6) hx hb hts hinX3 hown hK hP 0 cw_0 rfl 5 (by decide) (hts (.fieldLink RX3 38 "SquareGears" "row" "[I") (by decide +kernel)) (fun _ h9 => h9) rfl dX3_addAndSubtractHalves_30 ?_
  refine lv_iload_n hx hb dX3_addAndSubtractHalves_33 rfl (lv_at hl 1 rfl) ?_
  refine lv_iload_n hx hb dX3_addAndSubtractHalves_34 rfl (lv_at hl 3 rfl) ?_
  refine lv_iadd hx hb dX3_addAndSubtractHalves_35 ?_
  refine cx_top (y := 7) (by decide) ?_
  refine cx_iald (k := 7) hx hb hK hP 9 1 cw_9 rfl (by decide) (by decide) dX3_addAndSubtractHalves_36 ?_
  refine cx_top (y := ((((R 19) 1) - ((R 19) 5)) - (((R 19) 3) - ((R 19) 7)))) rfl ?_
  refine lv_istore (lv' := [(4, .int ((((R 19) 1) - ((R 19) 5)) - (((R 19) 3) - ((R 19) 7)))), (3, .int ((((R 19) 0) - ((R 19) 4)) - (((R 19) 2) - ((R 19) 6)))), (2, .int (nI 6)), (1, .int 1), (0, .ref (ad 0))]) hx hb dX3_addAndSubtractHalves_37 hl (by decide) rfl (fun ls hl => ?_)
  refine lv_aload_n hx hb dX3_addAndSubtractHalves_39 rfl (lv_at hl 4 rfl) ?_
  refine va_get (D := D) (ci := 3) (v := .ref (ad 9)) (C := RX3) (T := TX3) (N := 6) hx hb hts hinX3 hown hK hP 0 cw_0 rfl 5 (by decide) (hts (.fieldLink RX3 38 "SquareGears" "row" "[I") (by decide +kernel)) (fun _ h9 => h9) rfl dX3_addAndSubtractHalves_40 ?_
  refine lv_iload_n hx hb dX3_addAndSubtractHalves_43 rfl (lv_at hl 2 rfl) ?_
  refine lv_iload_n hx hb dX3_addAndSubtractHalves_44 rfl (lv_at hl 1 rfl) ?_
  refine lv_iload hx hb dX3_addAndSubtractHalves_45 (lv_at hl 0 rfl) ?_
  refine lv_iadd hx hb dX3_addAndSubtractHalves_47 ?_
  refine cx_iast (k := 6) hx hb hK hP (hD _ _) hS 9 1 cw_9 rfl (by omega) (by decide) cw_R19 dX3_addAndSubtractHalves_48 (fun H locs hP hS => ?_)
  refine lv_aload_n hx hb dX3_addAndSubtractHalves_49 rfl (lv_at hl 4 rfl) ?_
  refine va_get (D := D) (ci := 3) (v := .ref (ad 9)) (C := RX3) (T := TX3) (N := 6) hx hb hts hinX3 hown hK hP 0 cw_0 rfl 5 (by decide) (hts (.fieldLink RX3 38 "SquareGears" "row" "[I") (by decide +kernel)) (fun _ h9 => h9) rfl dX3_addAndSubtractHalves_50 ?_
  refine lv_iload_n hx hb dX3_addAndSubtractHalves_53 rfl (lv_at hl 2 rfl) ?_
  refine lv_iload_n hx hb dX3_addAndSubtractHalves_54 rfl (lv_at hl 3 rfl) ?_
  refine lv_iadd hx hb dX3_addAndSubtractHalves_55 ?_
  refine cx_top (y := 7) (by decide) ?_
  refine lv_iload_n hx hb dX3_addAndSubtractHalves_56 rfl (lv_at hl 1 rfl) ?_
  refine lv_iload hx hb dX3_addAndSubtractHalves_57 (lv_at hl 0 rfl) ?_
  refine lv_isub hx hb dX3_addAndSubtractHalves_59 ?_
  refine cx_iast (k := 7) hx hb hK hP (hD _ _) hS 9 1 cw_9 rfl (by decide) (by decide) cw_R19 dX3_addAndSubtractHalves_60 (fun H locs hP hS => ?_)
  refine lv_iinc (k := 2) (v := (nI 7)) (lv' := [(2, .int (nI 7)), (4, .int ((((R 19) 1) - ((R 19) 5)) - (((R 19) 3) - ((R 19) 7)))), (3, .int ((((R 19) 0) - ((R 19) 4)) - (((R 19) 2) - ((R 19) 6)))), (1, .int 1), (0, .ref (ad 0))]) hx hb dX3_addAndSubtractHalves_61 hl rfl (nI_add 6 1) (by decide) rfl (fun ls hl => ?_)
  refine lv_goto (tgt := 8) hx hb dX3_addAndSubtractHalves_64 (by decide) ?_
  refine lv_iload_n hx hb dX3_addAndSubtractHalves_8 rfl (lv_at hl 0 rfl) ?_
  refine lv_iload_n hx hb dX3_addAndSubtractHalves_9 rfl (lv_at hl 3 rfl) ?_
  refine lv_iadd hx hb dX3_addAndSubtractHalves_10 ?_
  refine cx_top (y := 8) (by decide) ?_
  refine lv_bipush (v := 8) hx hb dX3_addAndSubtractHalves_11 (by decide) ?_
  refine lv_icmp_ge (tgt := 67) hx hb dX3_addAndSubtractHalves_13 (by decide) (fun c_13 => ?_) (fun c_13 => absurd c_13 (by decide))
  refine lv_iload_n hx hb dX3_addAndSubtractHalves_67 rfl (lv_at hl 3 rfl) ?_
  refine lv_iconst (v := 2) hx hb dX3_addAndSubtractHalves_68 (by decide) ?_
  refine lv_idiv hx hb dX3_addAndSubtractHalves_69 (by decide) ?_
  refine cx_top (y := 0) (by decide) ?_
  refine lv_istore_n (lv' := [(1, .int 0), (2, .int (nI 7)), (4, .int ((((R 19) 1) - ((R 19) 5)) - (((R 19) 3) - ((R 19) 7)))), (3, .int ((((R 19) 0) - ((R 19) 4)) - (((R 19) 2) - ((R 19) 6)))), (0, .ref (ad 0))]) hx hb dX3_addAndSubtractHalves_70 rfl hl (by decide) rfl (fun ls hl => ?_)
  refine lv_goto (tgt := 2) hx hb dX3_addAndSubtractHalves_71 (by decide) ?_
  refine lv_iload_n hx hb dX3_addAndSubtractHalves_2 rfl (lv_at hl 0 rfl) ?_
  refine lv_if_le (tgt := 74) hx hb dX3_addAndSubtractHalves_3 (by decide) (fun c_3 => ?_) (fun c_3 => absurd c_3 (by decide))
  exact W.vret hx hb hr (fun t ht hW => ⟨⟨(upd (upd (upd (upd (upd (upd (upd (upd (upd (upd (upd (upd (upd (upd (upd (upd (upd (upd (upd (upd (upd (upd (upd (upd (R 19) 0 (((R 19) 0) + ((R 19) 4))) 4 (((R 19) 0) - ((R 19) 4))) 1 (((R 19) 1) + ((R 19) 5))) 5 (((R 19) 1) - ((R 19) 5))) 2 (((R 19) 2) + ((R 19) 6))) 6 (((R 19) 2) - ((R 19) 6))) 3 (((R 19) 3) + ((R 19) 7))) 7 (((R 19) 3) - ((R 19) 7))) 0 ((((R 19) 0) + ((R 19) 4)) + (((R 19) 2) + ((R 19) 6)))) 2 ((((R 19) 0) + ((R 19) 4)) - (((R 19) 2) + ((R 19) 6)))) 1 ((((R 19) 1) + ((R 19) 5)) + (((R 19) 3) + ((R 19) 7)))) 3 ((((R 19) 1) + ((R 19) 5)) - (((R 19) 3) + ((R 19) 7)))) 4 ((((R 19) 0) - ((R 19) 4)) + (((R 19) 2) - ((R 19) 6)))) 6 ((((R 19) 0) - ((R 19) 4)) - (((R 19) 2) - ((R 19) 6)))) 5 ((((R 19) 1) - ((R 19) 5)) + (((R 19) 3) - ((R 19) 7)))) 7 ((((R 19) 1) - ((R 19) 5)) - (((R 19) 3) - ((R 19) 7)))) 0 (((((R 19) 0) + ((R 19) 4)) + (((R 19) 2) + ((R 19) 6))) + ((((R 19) 1) + ((R 19) 5)) + (((R 19) 3) + ((R 19) 7))))) 1 (((((R 19) 0) + ((R 19) 4)) + (((R 19) 2) + ((R 19) 6))) - ((((R 19) 1) + ((R 19) 5)) + (((R 19) 3) + ((R 19) 7))))) 2 (((((R 19) 0) + ((R 19) 4)) - (((R 19) 2) + ((R 19) 6))) + ((((R 19) 1) + ((R 19) 5)) - (((R 19) 3) + ((R 19) 7))))) 3 (((((R 19) 0) + ((R 19) 4)) - (((R 19) 2) + ((R 19) 6))) - ((((R 19) 1) + ((R 19) 5)) - (((R 19) 3) + ((R 19) 7))))) 4 (((((R 19) 0) - ((R 19) 4)) + (((R 19) 2) - ((R 19) 6))) + ((((R 19) 1) - ((R 19) 5)) + (((R 19) 3) - ((R 19) 7))))) 5 (((((R 19) 0) - ((R 19) 4)) + (((R 19) 2) - ((R 19) 6))) - ((((R 19) 1) - ((R 19) 5)) + (((R 19) 3) - ((R 19) 7))))) 6 (((((R 19) 0) - ((R 19) 4)) - (((R 19) 2) - ((R 19) 6))) + ((((R 19) 1) - ((R 19) 5)) - (((R 19) 3) - ((R 19) 7))))) 7 (((((R 19) 0) - ((R 19) 4)) - (((R 19) 2) - ((R 19) 6))) - ((((R 19) 1) - ((R 19) 5)) - (((R 19) 3) - ((R 19) 7))))), rfl, all8 (had_0 _) (had_1 _) (had_2 _) (had_3 _) (had_4 _) (had_5 _) (had_6 _) (had_7 _), by show va_P _ _ _ _; rw [ht]; exact upd19 hP⟩, hS.F ht⟩) hS.2.2 dX3_addAndSubtractHalves_74
set_option maxHeartbeats 4000000 in
set_option maxRecDepth 100000 in
theorem c_X3_traceNumber1 (l : Launch) (D : va_G) (T : Nat → ClassId) (ad : Nat → Nat) (I : Nat → Int32) (R : Nat → Nat → Int32) (sz : Nat) (lm : Nat) (n : Nat) (hAD : AD 34 ad) (hm : lm < 256) (hI : I 4 = nI lm) (hn : n < 8) : Met l yX3_traceNumber wsX3_traceNumber ({ frames := 2, cells := 0, slots := 0, locals := 42 }) (va_Pc [.ref (ad 0), .int (nI n), .int 1] (CB D T ad I R sz)) (va_Qi (fun r (f : Nat → Int32) => r = (trS (dr (R 0) lm) n 8) ∧ True) (fun (f : Nat → Int32) t => va_P D vwCl (cw T ad I (updR R 19 f)) t.heap) (cA 34 ad sz)) 0 0 (cA 34 ad sz) := by
  refine Met.ofW (cc := cX3_traceNumber) (maxL := 4) (ret := (some .int)) (by decide) rfl ?_
  intro p e s m args_ below meth c s₁ B hml hv
  obtain ⟨rfl, hsz, hP, hK, hN⟩ := hv
  have hx := B.exec
  have hb := B.bytes
  have hr := B.returns
  have hts := atoms_spec (ws := wsX3_traceNumber) B.pre
  have hown : s.vm.findClass RX3 = some m.cls := findClass_of_methodNamed B.named
  have hlocks := B.notSynchronized
  have hinX3 : ∀ w ∈ u_ws RX3 TX3 6, w ∈ wsX3_traceNumber := by decide +kernel
  subst hsz
  have hS : va_S (cA 34 ad s.heap.size) s.heap s.heap [] := va_S.rf
  have hD : ∀ I R, va_D (cA 34 ad s.heap.size) (cw T ad I R) := fun I R => cw_D hAD (fun k hk => cA_in hk)
  have hl := lv_entry ([.ref (ad 0), .int (nI n), .int 1]) (n := 4) (Nat.le_of_ble_eq_true rfl)
  rw [lg_entry_eq]
  generalize (lg_sl ([.ref (ad 0), .int (nI n), .int 1]) ++ List.replicate (4 - (lg_sl ([.ref (ad 0), .int (nI n), .int 1])).length) Slot.unset).toArray = ls at hl ⊢
  have hl : lv_has ls 4 [(0, .ref (ad 0)), (1, .int (nI n)), (2, .int 1)] := hl
  refine lv_iload_n hx hb dX3_traceNumber_0 rfl (lv_at hl 2 rfl) ?_
  refine lv_if_ne (tgt := 13) hx hb dX3_traceNumber_1 (by decide) (fun c_1 => ?_) (fun c_1 => absurd c_1 (by decide))
  refine lv_iconst (v := 0) hx hb dX3_traceNumber_13 (by decide) ?_
  refine lv_istore_n (lv' := [(3, .int 0), (0, .ref (ad 0)), (1, .int (nI n)), (2, .int 1)]) hx hb dX3_traceNumber_14 rfl hl (by decide) rfl (fun ls hl => ?_)
  suffices ih_15 : ∀ (fu : Nat) (i : Nat) (f : Nat → Int32) (H : Heap) (locs : List Loc) (ls : Array Slot), 8 - i < fu → (i ≤ 8) → (∀ k, k < i → f k = dr (R 0) lm k) → va_P D vwCl (cw T ad I (updR R 19 f)) H →  va_S (cA 34 ad s.heap.size) s.heap H locs → lv_has ls 4 [(0, .ref (ad 0)), (1, .int (nI n)), (2, .int 1), (3, .int (nI i))] → W p l e (headSpec wsX3_traceNumber ({ frames := 2, cells := 0, slots := 0, locals := 42 })).room s m ([.ref (ad 0), .int (nI n), .int 1] : List Value).toArray below meth c H locs 0 0 (MQ below (va_Qi (fun r (f : Nat → Int32) => r = (trS (dr (R 0) lm) n 8) ∧ True) (fun (f : Nat → Int32) t => va_P D vwCl (cw T ad I (updR R 19 f)) t.heap) (cA 34 ad s.heap.size)) ([.ref (ad 0), .int (nI n), .int 1] : List Value).toArray s 0 0 (cA 34 ad s.heap.size)) (F0 m 15 ls []) from
    ih_15 _ 0 (R 19) _ _ _ (Nat.lt_succ_self _) (by omega) (fun k h => absurd h (Nat.not_lt_zero k)) (self19 hP) hS (lv_sub hl [1, 2, 3, 0] rfl)
  intro fu
  induction fu with
  | zero => intro i f H locs ls hfu; exact absurd hfu (Nat.not_lt_zero _)
  | succ fu ih_15 =>
    intro i f H locs ls hfu hi hf hP hS hl
    refine lv_iload_n hx hb dX3_traceNumber_15 rfl (lv_at hl 3 rfl) ?_
    refine lv_bipush (v := 8) hx hb dX3_traceNumber_16 (by decide) ?_
    refine lv_icmp_ge (tgt := 41) hx hb dX3_traceNumber_18 (by decide) (fun c_18 => ?_) (fun c_18 => ?_)
    · have c_18 : 8 ≤ i := (nI_leI (a := 8) (b := i) (by omega) (by omega)).mp c_18
      obtain rfl : i = 8 := by omega
      refine lv_aload_n hx hb dX3_traceNumber_41 rfl (lv_at hl 0 rfl) ?_
      refine cx_wv (va_runV (As := []) (rest := []) ⟨hx, hb, hml, hown, hts⟩ (c_X3_addAndSubtractHalves l D T ad I (updR R 19 f) _ (hAD)) (cwV 0 hts gX3_traceNumber_X3_addAndSubtractHalves rfl rfl rfl (by decide +kernel) ⟨Nat.le_of_ble_eq_true rfl, Nat.le_of_ble_eq_true rfl⟩) ⟨CB.blind, va_recv hK hP (ci := 3) (q0 := 0) rfl cw_0, (CB.pre hP hK hN rfl)⟩ rfl rfl hl.1 rfl (lv_room (Nat.le_of_ble_eq_true rfl)) dX3_traceNumber_42 ⟨Nat.le_of_ble_eq_true rfl, Nat.le_of_ble_eq_true rfl⟩) hS (cA_le hS.1) (cA_le hS.1) (fun u_42 H locs hu_42 hP hkk hS => ?_)
      have hP := upd19 hP
      refine lv_aload_n hx hb dX3_traceNumber_45 rfl (lv_at hl 0 rfl) ?_
      refine va_get (D := D) (ci := 3) (v := .ref (ad 9)) (C := RX3) (T := TX3) (N := 6) hx hb hts hinX3 hown hK hP 0 cw_0 rfl 5 (by decide) (hts (.fieldLink RX3 38 "SquareGears" "row" "[I") (by decide +kernel)) (fun _ h9 => h9) rfl dX3_traceNumber_46 ?_
      refine lv_iload_n hx hb dX3_traceNumber_49 rfl (lv_at hl 1 rfl) ?_
      refine cx_iald (k := n) hx hb hK hP 9 1 cw_9 rfl (by omega) (by decide) dX3_traceNumber_50 ?_
      exact W.iret (v := (u_42 n)) hx hb hr (fun t ht hW => ⟨⟨(u_42 n), u_42, rfl, ⟨(hu_42 n hn).trans (trS_congr hf), trivial⟩, by show va_P _ _ _ _; rw [ht]; exact hP⟩, hS.F ht⟩) hS.2.2 dX3_traceNumber_51
    · have c_18 : ¬ (8 ≤ i) := fun h => c_18 ((nI_leI (a := 8) (b := i) (by omega) (by omega)).mpr h)
      refine lv_aload_n hx hb dX3_traceNumber_21 rfl (lv_at hl 0 rfl) ?_
      refine va_get (D := D) (ci := 3) (v := .ref (ad 9)) (C := RX3) (T := TX3) (N := 6) hx hb hts hinX3 hown hK hP 0 cw_0 rfl 5 (by decide) (hts (.fieldLink RX3 38 "SquareGears" "row" "[I") (by decide +kernel)) (fun _ h9 => h9) rfl dX3_traceNumber_22 ?_
      refine lv_iload_n hx hb dX3_traceNumber_25 rfl (lv_at hl 3 rfl) ?_
      refine lv_aload_n hx hb dX3_traceNumber_26 rfl (lv_at hl 0 rfl) ?_
      refine va_get (D := D) (ci := 3) (v := .ref (ad 1)) (C := RX3) (T := TX3) (N := 6) hx hb hts hinX3 hown hK hP 0 cw_0 rfl 0 (by decide) (hts (.fieldLink RX3 12 "SquareGears" "now" "LSquareGears$Gears;") (by decide +kernel)) (fun _ h9 => h9) rfl dX3_traceNumber_27 ?_
      refine lv_iload_n hx hb dX3_traceNumber_30 rfl (lv_at hl 3 rfl) ?_
      refine cx_ri (va_runVN (As := [.int (nI i)]) (rest := [.int (nI i), .ref (ad 9)]) ⟨hx, hb, hml, hown, hts⟩ (c_X0_drawnAmplitude l D T ad I (updR R 19 f) lm i (hm) (hI) (by omega)) ⟨va_cnB 1 hts gX3_traceNumber_X0_drawnAmplitude_n201 rfl rfl rfl (nwm_X3_201 hN) (hts (.initialized RX0) (by decide +kernel)) (by decide +kernel) ⟨Nat.le_of_ble_eq_true rfl, Nat.le_of_ble_eq_true rfl⟩, (hts (.instanceMethod yX0_drawnAmplitude) (by decide +kernel)), (hts (.selects RX0 yX0_drawnAmplitude yX0_drawnAmplitude) (by decide +kernel))⟩ ⟨CR.blind, va_recv hK hP (ci := 0) (q0 := 1) rfl cw_1, (CR.pre hP hK hN rfl)⟩ rfl rfl hl.1 rfl (lv_room (Nat.le_of_ble_eq_true rfl)) dX3_traceNumber_31 ⟨Nat.le_of_ble_eq_true rfl, Nat.le_of_ble_eq_true rfl⟩) hS hP (fun H locs hP hS => ?_)
      refine cx_iast (k := i) hx hb hK hP (hD _ _) hS 9 1 cw_9 rfl (by omega) (by decide) cw_R19 dX3_traceNumber_34 (fun H locs hP hS => ?_)
      refine lv_iinc (k := 3) (v := (nI (i + 1))) (lv' := [(3, .int (nI (i + 1))), (0, .ref (ad 0)), (1, .int (nI n)), (2, .int 1)]) hx hb dX3_traceNumber_35 hl rfl (nI_add i 1) (by decide) rfl (fun ls hl => ?_)
      refine lv_goto (tgt := 15) hx hb dX3_traceNumber_38 (by decide) ?_
      exact ih_15 (i + 1) (upd f i (dr ((R 0)) lm i)) _ _ _ (by omega) (by omega) (up_lt hf rfl) (upd19 hP) hS (lv_sub hl [1, 2, 3, 0] rfl)
set_option maxHeartbeats 4000000 in
set_option maxRecDepth 100000 in
theorem c_X3_traceNumber0 (l : Launch) (D : va_G) (T : Nat → ClassId) (ad : Nat → Nat) (I : Nat → Int32) (R : Nat → Nat → Int32) (lm : Nat) (n : Nat) (hm : lm < 256) (hI : I 4 = nI lm) (hn : n < 8) : Met l yX3_traceNumber wsX3_traceNumber ({ frames := 3, cells := 0, slots := 0, locals := 65 }) (va_Pc [.ref (ad 0), .int (nI n), .int 0] (CR D T ad I R)) (RqI (trS (dr (R 0) lm) n 8)) 0 0 (fun _ => False) := by
  refine Met.ofW (cc := cX3_traceNumber) (maxL := 4) (ret := (some .int)) (by decide) rfl ?_
  intro p e s m args_ below meth c s₁ B hml hv
  obtain ⟨rfl, hP, hK, hN⟩ := hv
  have hx := B.exec
  have hb := B.bytes
  have hr := B.returns
  have hts := atoms_spec (ws := wsX3_traceNumber) B.pre
  have hown : s.vm.findClass RX3 = some m.cls := findClass_of_methodNamed B.named
  have hlocks := B.notSynchronized
  have hinX3 : ∀ w ∈ u_ws RX3 TX3 6, w ∈ wsX3_traceNumber := by decide +kernel
  have hS : va_S (fun _ => False) s.heap s.heap [] := va_S.rf
  have hl := lv_entry ([.ref (ad 0), .int (nI n), .int 0]) (n := 4) (Nat.le_of_ble_eq_true rfl)
  rw [lg_entry_eq]
  generalize (lg_sl ([.ref (ad 0), .int (nI n), .int 0]) ++ List.replicate (4 - (lg_sl ([.ref (ad 0), .int (nI n), .int 0])).length) Slot.unset).toArray = ls at hl ⊢
  have hl : lv_has ls 4 [(0, .ref (ad 0)), (1, .int (nI n)), (2, .int 0)] := hl
  refine lv_iload_n hx hb dX3_traceNumber_0 rfl (lv_at hl 2 rfl) ?_
  refine lv_if_ne (tgt := 13) hx hb dX3_traceNumber_1 (by decide) (fun c_1 => absurd c_1 (by decide)) (fun c_1 => ?_)
  refine lv_aload_n hx hb dX3_traceNumber_4 rfl (lv_at hl 0 rfl) ?_
  refine va_get (D := D) (ci := 3) (v := .ref (ad 1)) (C := RX3) (T := TX3) (N := 6) hx hb hts hinX3 hown hK hP 0 cw_0 rfl 0 (by decide) (hts (.fieldLink RX3 12 "SquareGears" "now" "LSquareGears$Gears;") (by decide +kernel)) (fun _ h9 => h9) rfl dX3_traceNumber_5 ?_
  refine lv_iload_n hx hb dX3_traceNumber_8 rfl (lv_at hl 1 rfl) ?_
  refine cx_ri (va_runVN (As := [.int (nI n)]) (rest := []) ⟨hx, hb, hml, hown, hts⟩ (c_X0_traceAt l D T ad I R lm n (hm) (hI) (hn)) ⟨va_cnB 1 hts gX3_traceNumber_X0_traceAt_n96 rfl rfl rfl (nwm_X3_96 hN) (hts (.initialized RX0) (by decide +kernel)) (by decide +kernel) ⟨Nat.le_of_ble_eq_true rfl, Nat.le_of_ble_eq_true rfl⟩, (hts (.instanceMethod yX0_traceAt) (by decide +kernel)), (hts (.selects RX0 yX0_traceAt yX0_traceAt) (by decide +kernel))⟩ ⟨CR.blind, va_recv hK hP (ci := 0) (q0 := 1) rfl cw_1, (CR.pre hP hK hN rfl)⟩ rfl rfl hl.1 rfl (lv_room (Nat.le_of_ble_eq_true rfl)) dX3_traceNumber_9 ⟨Nat.le_of_ble_eq_true rfl, Nat.le_of_ble_eq_true rfl⟩) hS hP (fun H locs hP hS => ?_)
  exact W.iret (v := (trS (dr ((R 0)) lm) n 8)) hx hb hr (fun t ht hW => ⟨⟨(trS (dr ((R 0)) lm) n 8), (), rfl, (rfl), trivial⟩, hS.F ht⟩) hS.2.2 dX3_traceNumber_12
set_option maxHeartbeats 4000000 in
set_option maxRecDepth 100000 in
theorem c_X3_leastInRow (l : Launch) (D : va_G) (T : Nat → ClassId) (ad : Nat → Nat) (I : Nat → Int32) (R : Nat → Nat → Int32) : Met l yX3_leastInRow wsX3_leastInRow ({ frames := 0, cells := 0, slots := 0, locals := 0 }) (va_Pc [.ref (ad 0)] (CR D T ad I R)) (RqI (oI (liS (R 19) 8))) 0 0 (fun _ => False) := by
  refine Met.ofW (cc := cX3_leastInRow) (maxL := 3) (ret := (some .int)) (by decide) rfl ?_
  intro p e s m args_ below meth c s₁ B hml hv
  obtain ⟨rfl, hP, hK, hN⟩ := hv
  have hx := B.exec
  have hb := B.bytes
  have hr := B.returns
  have hts := atoms_spec (ws := wsX3_leastInRow) B.pre
  have hown : s.vm.findClass RX3 = some m.cls := findClass_of_methodNamed B.named
  have hlocks := B.notSynchronized
  have hinX3 : ∀ w ∈ u_ws RX3 TX3 6, w ∈ wsX3_leastInRow := by decide +kernel
  have hS : va_S (fun _ => False) s.heap s.heap [] := va_S.rf
  have hl := lv_entry ([.ref (ad 0)]) (n := 3) (Nat.le_of_ble_eq_true rfl)
  rw [lg_entry_eq]
  generalize (lg_sl ([.ref (ad 0)]) ++ List.replicate (3 - (lg_sl ([.ref (ad 0)])).length) Slot.unset).toArray = ls at hl ⊢
  have hl : lv_has ls 3 [(0, .ref (ad 0))] := hl
  refine lv_iconst (v := (-1)) hx hb dX3_leastInRow_0 (by decide) ?_
  refine lv_istore_n (lv' := [(1, .int (-1)), (0, .ref (ad 0))]) hx hb dX3_leastInRow_1 rfl hl (by decide) rfl (fun ls hl => ?_)
  refine lv_iconst (v := 0) hx hb dX3_leastInRow_2 (by decide) ?_
  refine lv_istore_n (lv' := [(2, .int 0), (1, .int (-1)), (0, .ref (ad 0))]) hx hb dX3_leastInRow_3 rfl hl (by decide) rfl (fun ls hl => ?_)
  suffices ih_4 : ∀ (fu : Nat) (i : Nat) (o : Option Nat) (H : Heap) (locs : List Loc) (ls : Array Slot), 8 - i < fu → (i ≤ 8) → (o = liS (R 19) i) → (∀ k, o = some k → k < 8) → va_P D vwCl (cw T ad I R) H →  va_S (fun _ => False) s.heap H locs → lv_has ls 3 [(0, .ref (ad 0)), (1, .int (oI o)), (2, .int (nI i))] → W p l e (headSpec wsX3_leastInRow ({ frames := 0, cells := 0, slots := 0, locals := 0 })).room s m ([.ref (ad 0)] : List Value).toArray below meth c H locs 0 0 (MQ below (RqI (oI (liS (R 19) 8))) ([.ref (ad 0)] : List Value).toArray s 0 0 (fun _ => False)) (F0 m 4 ls []) from
    ih_4 _ 0 none _ _ _ (Nat.lt_succ_self _) (by omega) (rfl) (fun k h => by cases h) hP hS (lv_sub hl [2, 1, 0] rfl)
  intro fu
  induction fu with
  | zero => intro i o H locs ls hfu; exact absurd hfu (Nat.not_lt_zero _)
  | succ fu ih_4 =>
    intro i o H locs ls hfu hi ho ho8 hP hS hl
    refine lv_iload_n hx hb dX3_leastInRow_4 rfl (lv_at hl 2 rfl) ?_
    refine lv_bipush (v := 8) hx hb dX3_leastInRow_5 (by decide) ?_
    refine lv_icmp_ge (tgt := 47) hx hb dX3_leastInRow_7 (by decide) (fun c_7 => ?_) (fun c_7 => ?_)
    · have c_7 : 8 ≤ i := (nI_leI (a := 8) (b := i) (by omega) (by omega)).mp c_7
      obtain rfl : i = 8 := by omega
      refine lv_iload_n hx hb dX3_leastInRow_47 rfl (lv_at hl 1 rfl) ?_
      exact W.iret (v := (oI o)) hx hb hr (fun t ht hW => ⟨⟨(oI o), (), rfl, (by rw [ho]), trivial⟩, hS.F ht⟩) hS.2.2 dX3_leastInRow_48
    · have c_7 : ¬ (8 ≤ i) := fun h => c_7 ((nI_leI (a := 8) (b := i) (by omega) (by omega)).mpr h)
      refine lv_aload_n hx hb dX3_leastInRow_10 rfl (lv_at hl 0 rfl) ?_
      refine va_get (D := D) (ci := 3) (v := .ref (ad 9)) (C := RX3) (T := TX3) (N := 6) hx hb hts hinX3 hown hK hP 0 cw_0 rfl 5 (by decide) (hts (.fieldLink RX3 38 "SquareGears" "row" "[I") (by decide +kernel)) (fun _ h9 => h9) rfl dX3_leastInRow_11 ?_
      refine lv_iload_n hx hb dX3_leastInRow_14 rfl (lv_at hl 2 rfl) ?_
      refine cx_iald (k := i) hx hb hK hP 9 1 cw_9 rfl (by omega) (by decide) dX3_leastInRow_15 ?_
      refine lv_if_le (tgt := 41) hx hb dX3_leastInRow_16 (by decide) (fun c_16 => ?_) (fun c_16 => ?_)
      · refine lv_iinc (k := 2) (v := (nI (i + 1))) (lv' := [(2, .int (nI (i + 1))), (0, .ref (ad 0)), (1, .int (oI o))]) hx hb dX3_leastInRow_41 hl rfl (nI_add i 1) (by decide) rfl (fun ls hl => ?_)
        refine lv_goto (tgt := 4) hx hb dX3_leastInRow_44 (by decide) ?_
        exact ih_4 (i + 1) o _ _ _ (by omega) (by omega) (by first | exact li_a c_16 ho | exact li_b c_16 ho | exact li_c c_16 ho c_36 | exact li_d c_16 ho c_36) (by first | exact ho8 | (intro k hk; cases hk; omega)) hP hS (lv_sub hl [1, 2, 0] rfl)
      · rcases o with _ | k
        · refine lv_iload_n hx hb dX3_leastInRow_19 rfl (lv_at hl 1 rfl) ?_
          refine lv_iconst (v := (-1)) hx hb dX3_leastInRow_20 (by decide) ?_
          refine lv_icmp_eq (tgt := 39) hx hb dX3_leastInRow_21 (by decide) (fun c_21 => ?_) (fun c_21 => absurd c_21 (by decide))
          refine lv_iload_n hx hb dX3_leastInRow_39 rfl (lv_at hl 2 rfl) ?_
          refine lv_istore_n (lv' := [(1, .int (nI i)), (0, .ref (ad 0)), (2, .int (nI i))]) hx hb dX3_leastInRow_40 rfl hl (by decide) rfl (fun ls hl => ?_)
          refine lv_iinc (k := 2) (v := (nI (i + 1))) (lv' := [(2, .int (nI (i + 1))), (1, .int (nI i)), (0, .ref (ad 0))]) hx hb dX3_leastInRow_41 hl rfl (nI_add i 1) (by decide) rfl (fun ls hl => ?_)
          refine lv_goto (tgt := 4) hx hb dX3_leastInRow_44 (by decide) ?_
          exact ih_4 (i + 1) (some (i)) _ _ _ (by omega) (by omega) (by first | exact li_a c_16 ho | exact li_b c_16 ho | exact li_c c_16 ho c_36 | exact li_d c_16 ho c_36) (by first | exact ho8 | (intro k hk; cases hk; omega)) hP hS (lv_sub hl [2, 1, 0] rfl)
        · refine lv_iload_n hx hb dX3_leastInRow_19 rfl (lv_at hl 1 rfl) ?_
          refine lv_iconst (v := (-1)) hx hb dX3_leastInRow_20 (by decide) ?_
          refine lv_icmp_eq (tgt := 39) hx hb dX3_leastInRow_21 (by decide) (fun c_21 => ?_) (fun c_21 => ?_)
          · exact absurd c_21 (nI_ne_m1 (by have := ho8 k rfl; omega))
          · refine lv_aload_n hx hb dX3_leastInRow_24 rfl (lv_at hl 0 rfl) ?_
            refine va_get (D := D) (ci := 3) (v := .ref (ad 9)) (C := RX3) (T := TX3) (N := 6) hx hb hts hinX3 hown hK hP 0 cw_0 rfl 5 (by decide) (hts (.fieldLink RX3 38 "SquareGears" "row" "[I") (by decide +kernel)) (fun _ h9 => h9) rfl dX3_leastInRow_25 ?_
            refine lv_iload_n hx hb dX3_leastInRow_28 rfl (lv_at hl 2 rfl) ?_
            refine cx_iald (k := i) hx hb hK hP 9 1 cw_9 rfl (by omega) (by decide) dX3_leastInRow_29 ?_
            refine lv_aload_n hx hb dX3_leastInRow_30 rfl (lv_at hl 0 rfl) ?_
            refine va_get (D := D) (ci := 3) (v := .ref (ad 9)) (C := RX3) (T := TX3) (N := 6) hx hb hts hinX3 hown hK hP 0 cw_0 rfl 5 (by decide) (hts (.fieldLink RX3 38 "SquareGears" "row" "[I") (by decide +kernel)) (fun _ h9 => h9) rfl dX3_leastInRow_31 ?_
            refine lv_iload_n hx hb dX3_leastInRow_34 rfl (lv_at hl 1 rfl) ?_
            refine cx_iald (k := k) hx hb hK hP 9 1 cw_9 rfl (by have := ho8 k rfl; omega) (by decide) dX3_leastInRow_35 ?_
            refine lv_icmp_ge (tgt := 41) hx hb dX3_leastInRow_36 (by decide) (fun c_36 => ?_) (fun c_36 => ?_)
            · refine lv_iinc (k := 2) (v := (nI (i + 1))) (lv' := [(2, .int (nI (i + 1))), (0, .ref (ad 0)), (1, .int (nI k))]) hx hb dX3_leastInRow_41 hl rfl (nI_add i 1) (by decide) rfl (fun ls hl => ?_)
              refine lv_goto (tgt := 4) hx hb dX3_leastInRow_44 (by decide) ?_
              exact ih_4 (i + 1) (some (k)) _ _ _ (by omega) (by omega) (by first | exact li_a c_16 ho | exact li_b c_16 ho | exact li_c c_16 ho c_36 | exact li_d c_16 ho c_36) (by first | exact ho8 | (intro k hk; cases hk; omega)) hP hS (lv_sub hl [1, 2, 0] rfl)
            · refine lv_iload_n hx hb dX3_leastInRow_39 rfl (lv_at hl 2 rfl) ?_
              refine lv_istore_n (lv' := [(1, .int (nI i)), (0, .ref (ad 0)), (2, .int (nI i))]) hx hb dX3_leastInRow_40 rfl hl (by decide) rfl (fun ls hl => ?_)
              refine lv_iinc (k := 2) (v := (nI (i + 1))) (lv' := [(2, .int (nI (i + 1))), (1, .int (nI i)), (0, .ref (ad 0))]) hx hb dX3_leastInRow_41 hl rfl (nI_add i 1) (by decide) rfl (fun ls hl => ?_)
              refine lv_goto (tgt := 4) hx hb dX3_leastInRow_44 (by decide) ?_
              exact ih_4 (i + 1) (some (i)) _ _ _ (by omega) (by omega) (by first | exact li_a c_16 ho | exact li_b c_16 ho | exact li_c c_16 ho c_36 | exact li_d c_16 ho c_36) (by first | exact ho8 | (intro k hk; cases hk; omega)) hP hS (lv_sub hl [2, 1, 0] rfl)
set_option maxHeartbeats 4000000 in
set_option maxRecDepth 100000 in
theorem c_X3_fewestByDropping (l : Launch) (D : va_G) (T : Nat → ClassId) (ad : Nat → Nat) (I : Nat → Int32) (R : Nat → Nat → Int32) (sz : Nat) (x : Int32) (hAD : AD 34 ad) : Met l yX3_fewestByDropping wsX3_fewestByDropping ({ frames := 1, cells := 0, slots := 0, locals := 22 }) (va_Pc [.ref (ad 0), .int x] (CB D T ad I R sz)) (va_Qi (fun r (f : Nat → Int32) => r = (fbR 8 (R 19) x (poS (R 19) 8)) ∧ True) (fun (f : Nat → Int32) t => va_P D vwCl (cw T ad I (updR R 19 f)) t.heap) (cA 34 ad sz)) 0 0 (cA 34 ad sz) := by
  refine Met.ofW (cc := cX3_fewestByDropping) (maxL := 6) (ret := (some .int)) (by decide) rfl ?_
  intro p e s m args_ below meth c s₁ B hml hv
  obtain ⟨rfl, hsz, hP, hK, hN⟩ := hv
  have hx := B.exec
  have hb := B.bytes
  have hr := B.returns
  have hts := atoms_spec (ws := wsX3_fewestByDropping) B.pre
  have hown : s.vm.findClass RX3 = some m.cls := findClass_of_methodNamed B.named
  have hlocks := B.notSynchronized
  have hinX3 : ∀ w ∈ u_ws RX3 TX3 6, w ∈ wsX3_fewestByDropping := by decide +kernel
  subst hsz
  have hS : va_S (cA 34 ad s.heap.size) s.heap s.heap [] := va_S.rf
  have hD : ∀ I R, va_D (cA 34 ad s.heap.size) (cw T ad I R) := fun I R => cw_D hAD (fun k hk => cA_in hk)
  have hl := lv_entry ([.ref (ad 0), .int x]) (n := 6) (Nat.le_of_ble_eq_true rfl)
  rw [lg_entry_eq]
  generalize (lg_sl ([.ref (ad 0), .int x]) ++ List.replicate (6 - (lg_sl ([.ref (ad 0), .int x])).length) Slot.unset).toArray = ls at hl ⊢
  have hl : lv_has ls 6 [(0, .ref (ad 0)), (1, .int x)] := hl
  refine lv_iload_n hx hb dX3_fewestByDropping_0 rfl (lv_at hl 1 rfl) ?_
  refine lv_istore_n (lv' := [(2, .int x), (0, .ref (ad 0)), (1, .int x)]) hx hb dX3_fewestByDropping_1 rfl hl (by decide) rfl (fun ls hl => ?_)
  refine lv_iconst (v := 0) hx hb dX3_fewestByDropping_2 (by decide) ?_
  refine lv_istore_n (lv' := [(3, .int 0), (2, .int x), (0, .ref (ad 0)), (1, .int x)]) hx hb dX3_fewestByDropping_3 rfl hl (by decide) rfl (fun ls hl => ?_)
  refine lv_iconst (v := 0) hx hb dX3_fewestByDropping_4 (by decide) ?_
  refine lv_istore (lv' := [(4, .int 0), (3, .int 0), (2, .int x), (0, .ref (ad 0)), (1, .int x)]) hx hb dX3_fewestByDropping_5 hl (by decide) rfl (fun ls hl => ?_)
  suffices ih_7 : ∀ (fu : Nat) (i : Nat) (H : Heap) (locs : List Loc) (ls : Array Slot), 8 - i < fu → (i ≤ 8) → va_P D vwCl (cw T ad I R) H →  va_S (cA 34 ad s.heap.size) s.heap H locs → lv_has ls 6 [(0, .ref (ad 0)), (1, .int x), (2, .int x), (3, .int (poS (R 19) i)), (4, .int (nI i))] → W p l e (headSpec wsX3_fewestByDropping ({ frames := 1, cells := 0, slots := 0, locals := 22 })).room s m ([.ref (ad 0), .int x] : List Value).toArray below meth c H locs 0 0 (MQ below (va_Qi (fun r (f : Nat → Int32) => r = (fbR 8 (R 19) x (poS (R 19) 8)) ∧ True) (fun (f : Nat → Int32) t => va_P D vwCl (cw T ad I (updR R 19 f)) t.heap) (cA 34 ad s.heap.size)) ([.ref (ad 0), .int x] : List Value).toArray s 0 0 (cA 34 ad s.heap.size)) (F0 m 7 ls []) from
    ih_7 _ 0 _ _ _ (Nat.lt_succ_self _) (by omega) hP hS (lv_sub hl [3, 4, 2, 1, 0] rfl)
  intro fu
  induction fu with
  | zero => intro i H locs ls hfu; exact absurd hfu (Nat.not_lt_zero _)
  | succ fu ih_7 =>
    intro i H locs ls hfu hi hP hS hl
    refine lv_iload hx hb dX3_fewestByDropping_7 (lv_at hl 4 rfl) ?_
    refine lv_bipush (v := 8) hx hb dX3_fewestByDropping_9 (by decide) ?_
    refine lv_icmp_ge (tgt := 38) hx hb dX3_fewestByDropping_11 (by decide) (fun c_11 => ?_) (fun c_11 => ?_)
    · have c_11 : 8 ≤ i := (nI_leI (a := 8) (b := i) (by omega) (by omega)).mp c_11
      obtain rfl : i = 8 := by omega
      refine lv_iconst (v := 0) hx hb dX3_fewestByDropping_38 (by decide) ?_
      refine lv_istore (lv' := [(4, .int 0), (0, .ref (ad 0)), (1, .int x), (2, .int x), (3, .int (poS (R 19) 8))]) hx hb dX3_fewestByDropping_39 hl (by decide) rfl (fun ls hl => ?_)
      suffices ih_41 : ∀ (fu : Nat) (st : Nat) (f : Nat → Int32) (al : Int32) (le : Int32) (H : Heap) (locs : List Loc) (ls : Array Slot), 8 - st < fu → (st ≤ 8) → (fbR 8 (R 19) x (poS (R 19) 8) = fbR (8 - st) f al le) → va_P D vwCl (cw T ad I (updR R 19 f)) H →  va_S (cA 34 ad s.heap.size) s.heap H locs → lv_has ls 6 [(0, .ref (ad 0)), (1, .int x), (2, .int al), (3, .int le), (4, .int (nI st))] → W p l e (headSpec wsX3_fewestByDropping ({ frames := 1, cells := 0, slots := 0, locals := 22 })).room s m ([.ref (ad 0), .int x] : List Value).toArray below meth c H locs 0 0 (MQ below (va_Qi (fun r (f : Nat → Int32) => r = (fbR 8 (R 19) x (poS (R 19) 8)) ∧ True) (fun (f : Nat → Int32) t => va_P D vwCl (cw T ad I (updR R 19 f)) t.heap) (cA 34 ad s.heap.size)) ([.ref (ad 0), .int x] : List Value).toArray s 0 0 (cA 34 ad s.heap.size)) (F0 m 41 ls []) from
        ih_41 _ 0 (R 19) x (poS (R 19) 8) _ _ _ (Nat.lt_succ_self _) (by omega) (rfl) (self19 hP) hS (lv_sub hl [1, 2, 3, 4, 0] rfl)
      intro fu
      induction fu with
      | zero => intro st f al le H locs ls hfu; exact absurd hfu (Nat.not_lt_zero _)
      | succ fu ih_41 =>
        intro st f al le H locs ls hfu hst hF hP hS hl
        refine lv_iload hx hb dX3_fewestByDropping_41 (lv_at hl 4 rfl) ?_
        refine lv_bipush (v := 8) hx hb dX3_fewestByDropping_43 (by decide) ?_
        refine lv_icmp_ge (tgt := 100) hx hb dX3_fewestByDropping_45 (by decide) (fun c_45 => ?_) (fun c_45 => ?_)
        · have c_45 : 8 ≤ st := (nI_leI (a := 8) (b := st) (by omega) (by omega)).mp c_45
          obtain rfl : st = 8 := by omega
          refine lv_iload_n hx hb dX3_fewestByDropping_100 rfl (lv_at hl 3 rfl) ?_
          exact W.iret (v := le) hx hb hr (fun t ht hW => ⟨⟨le, f, rfl, ⟨by first | exact (hF.trans (fb_none (by omega) hli)).symm | exact (hF.trans (fb_stop (by omega) hli c_68)).symm | exact hF.symm, trivial⟩, by show va_P _ _ _ _; rw [ht]; exact hP⟩, hS.F ht⟩) hS.2.2 dX3_fewestByDropping_101
        · have c_45 : ¬ (8 ≤ st) := fun h => c_45 ((nI_leI (a := 8) (b := st) (by omega) (by omega)).mpr h)
          refine lv_aload_n hx hb dX3_fewestByDropping_48 rfl (lv_at hl 0 rfl) ?_
          refine cx_ri (va_runV (As := []) (rest := []) ⟨hx, hb, hml, hown, hts⟩ (c_X3_leastInRow l D T ad I (updR R 19 f) ) (cwV 0 hts gX3_fewestByDropping_X3_leastInRow rfl rfl rfl (by decide +kernel) ⟨Nat.le_of_ble_eq_true rfl, Nat.le_of_ble_eq_true rfl⟩) ⟨CR.blind, va_recv hK hP (ci := 3) (q0 := 0) rfl cw_0, (CR.pre hP hK hN rfl)⟩ rfl rfl hl.1 rfl (lv_room (Nat.le_of_ble_eq_true rfl)) dX3_fewestByDropping_49 ⟨Nat.le_of_ble_eq_true rfl, Nat.le_of_ble_eq_true rfl⟩) hS hP (fun H locs hP hS => ?_)
          refine cx_top (show (oI (liS (f) 8)) = (oI (liS f 8)) from rfl) ?_
          rcases hli : liS f 8 with _ | w
          · refine lv_istore (lv' := [(5, .int (-1)), (0, .ref (ad 0)), (1, .int x), (2, .int al), (3, .int le), (4, .int (nI st))]) hx hb dX3_fewestByDropping_52 hl (by decide) rfl (fun ls hl => ?_)
            refine lv_iload hx hb dX3_fewestByDropping_54 (lv_at hl 0 rfl) ?_
            refine lv_iconst (v := (-1)) hx hb dX3_fewestByDropping_56 (by decide) ?_
            refine lv_icmp_eq (tgt := 71) hx hb dX3_fewestByDropping_57 (by decide) (fun c_57 => ?_) (fun c_57 => absurd c_57 (by decide))
            refine lv_iload_n hx hb dX3_fewestByDropping_71 rfl (lv_at hl 4 rfl) ?_
            exact W.iret (v := le) hx hb hr (fun t ht hW => ⟨⟨le, f, rfl, ⟨by first | exact (hF.trans (fb_none (by omega) hli)).symm | exact (hF.trans (fb_stop (by omega) hli c_68)).symm | exact hF.symm, trivial⟩, by show va_P _ _ _ _; rw [ht]; exact hP⟩, hS.F ht⟩) hS.2.2 dX3_fewestByDropping_72
          · have hw8 : w < 8 := li_lt hli
            refine lv_istore (lv' := [(5, .int (nI w)), (0, .ref (ad 0)), (1, .int x), (2, .int al), (3, .int le), (4, .int (nI st))]) hx hb dX3_fewestByDropping_52 hl (by decide) rfl (fun ls hl => ?_)
            refine lv_iload hx hb dX3_fewestByDropping_54 (lv_at hl 0 rfl) ?_
            refine lv_iconst (v := (-1)) hx hb dX3_fewestByDropping_56 (by decide) ?_
            refine lv_icmp_eq (tgt := 71) hx hb dX3_fewestByDropping_57 (by decide) (fun c_57 => ?_) (fun c_57 => ?_)
            · exact absurd c_57 (nI_ne_m1 (by omega))
            · refine lv_aload_n hx hb dX3_fewestByDropping_60 rfl (lv_at hl 1 rfl) ?_
              refine va_get (D := D) (ci := 3) (v := .ref (ad 9)) (C := RX3) (T := TX3) (N := 6) hx hb hts hinX3 hown hK hP 0 cw_0 rfl 5 (by decide) (hts (.fieldLink RX3 38 "SquareGears" "row" "[I") (by decide +kernel)) (fun _ h9 => h9) rfl dX3_fewestByDropping_61 ?_
              refine lv_iload hx hb dX3_fewestByDropping_64 (lv_at hl 0 rfl) ?_
              refine cx_iald (k := w) hx hb hK hP 9 1 cw_9 rfl (by omega) (by decide) dX3_fewestByDropping_66 ?_
              refine lv_iload_n hx hb dX3_fewestByDropping_67 rfl (lv_at hl 3 rfl) ?_
              refine lv_icmp_le (tgt := 73) hx hb dX3_fewestByDropping_68 (by decide) (fun c_68 => ?_) (fun c_68 => ?_)
              · refine lv_iload_n hx hb dX3_fewestByDropping_73 rfl (lv_at hl 3 rfl) ?_
                refine lv_aload_n hx hb dX3_fewestByDropping_74 rfl (lv_at hl 1 rfl) ?_
                refine va_get (D := D) (ci := 3) (v := .ref (ad 9)) (C := RX3) (T := TX3) (N := 6) hx hb hts hinX3 hown hK hP 0 cw_0 rfl 5 (by decide) (hts (.fieldLink RX3 38 "SquareGears" "row" "[I") (by decide +kernel)) (fun _ h9 => h9) rfl dX3_fewestByDropping_75 ?_
                refine lv_iload hx hb dX3_fewestByDropping_78 (lv_at hl 0 rfl) ?_
                refine cx_iald (k := w) hx hb hK hP 9 1 cw_9 rfl (by omega) (by decide) dX3_fewestByDropping_80 ?_
                refine lv_isub hx hb dX3_fewestByDropping_81 ?_
                refine lv_istore_n (lv' := [(2, .int (al - (f w))), (5, .int (nI w)), (0, .ref (ad 0)), (1, .int x), (3, .int le), (4, .int (nI st))]) hx hb dX3_fewestByDropping_82 rfl hl (by decide) rfl (fun ls hl => ?_)
                refine lv_aload_n hx hb dX3_fewestByDropping_83 rfl (lv_at hl 2 rfl) ?_
                refine va_get (D := D) (ci := 3) (v := .ref (ad 9)) (C := RX3) (T := TX3) (N := 6) hx hb hts hinX3 hown hK hP 0 cw_0 rfl 5 (by decide) (hts (.fieldLink RX3 38 "SquareGears" "row" "[I") (by decide +kernel)) (fun _ h9 => h9) rfl dX3_fewestByDropping_84 ?_
                refine lv_iload hx hb dX3_fewestByDropping_87 (lv_at hl 1 rfl) ?_
                refine lv_iconst (v := 0) hx hb dX3_fewestByDropping_89 (by decide) ?_
                refine cx_iast (k := w) hx hb hK hP (hD _ _) hS 9 1 cw_9 rfl (by omega) (by decide) cw_R19 dX3_fewestByDropping_90 (fun H locs hP hS => ?_)
                refine lv_iinc (k := 4) (v := (le + (-1))) (lv' := [(3, .int (le + (-1))), (2, .int (al - (f w))), (5, .int (nI w)), (0, .ref (ad 0)), (1, .int x), (4, .int (nI st))]) hx hb dX3_fewestByDropping_91 hl rfl rfl (by decide) rfl (fun ls hl => ?_)
                refine lv_iinc (k := 5) (v := (nI (st + 1))) (lv' := [(4, .int (nI (st + 1))), (3, .int (le + (-1))), (2, .int (al - (f w))), (5, .int (nI w)), (0, .ref (ad 0)), (1, .int x)]) hx hb dX3_fewestByDropping_94 hl rfl (nI_add st 1) (by decide) rfl (fun ls hl => ?_)
                refine lv_goto (tgt := 41) hx hb dX3_fewestByDropping_97 (by decide) ?_
                exact ih_41 (st + 1) (upd f w 0) (al - (f w)) (le + (-1)) _ _ _ (by omega) (by omega) (hF.trans (fb_go (by omega) hli c_68)) (upd19 hP) hS (lv_sub hl [4, 5, 2, 1, 0] rfl)
              · refine lv_iload_n hx hb dX3_fewestByDropping_71 rfl (lv_at hl 4 rfl) ?_
                exact W.iret (v := le) hx hb hr (fun t ht hW => ⟨⟨le, f, rfl, ⟨by first | exact (hF.trans (fb_none (by omega) hli)).symm | exact (hF.trans (fb_stop (by omega) hli c_68)).symm | exact hF.symm, trivial⟩, by show va_P _ _ _ _; rw [ht]; exact hP⟩, hS.F ht⟩) hS.2.2 dX3_fewestByDropping_72
    · have c_11 : ¬ (8 ≤ i) := fun h => c_11 ((nI_leI (a := 8) (b := i) (by omega) (by omega)).mpr h)
      refine lv_iload_n hx hb dX3_fewestByDropping_14 rfl (lv_at hl 3 rfl) ?_
      refine lv_aload_n hx hb dX3_fewestByDropping_15 rfl (lv_at hl 0 rfl) ?_
      refine va_get (D := D) (ci := 3) (v := .ref (ad 9)) (C := RX3) (T := TX3) (N := 6) hx hb hts hinX3 hown hK hP 0 cw_0 rfl 5 (by decide) (hts (.fieldLink RX3 38 "SquareGears" "row" "[I") (by decide +kernel)) (fun _ h9 => h9) rfl dX3_fewestByDropping_16 ?_
      refine lv_iload hx hb dX3_fewestByDropping_19 (lv_at hl 4 rfl) ?_
      refine cx_iald (k := i) hx hb hK hP 9 1 cw_9 rfl (by omega) (by decide) dX3_fewestByDropping_21 ?_
      refine lv_if_le (tgt := 29) hx hb dX3_fewestByDropping_22 (by decide) (fun c_22 => ?_) (fun c_22 => ?_)
      · refine lv_iconst (v := 0) hx hb dX3_fewestByDropping_29 (by decide) ?_
        refine lv_iadd hx hb dX3_fewestByDropping_30 ?_
        refine cx_top (show ((poS (R 19) i) + 0) = (poS (R 19) (i + 1)) from by first | exact po_t (by assumption) | exact po_f (by assumption)) ?_
        refine lv_istore_n (lv' := [(3, .int (poS (R 19) (i + 1))), (0, .ref (ad 0)), (1, .int x), (2, .int x), (4, .int (nI i))]) hx hb dX3_fewestByDropping_31 rfl hl (by decide) rfl (fun ls hl => ?_)
        refine lv_iinc (k := 4) (v := (nI (i + 1))) (lv' := [(4, .int (nI (i + 1))), (3, .int (poS (R 19) (i + 1))), (0, .ref (ad 0)), (1, .int x), (2, .int x)]) hx hb dX3_fewestByDropping_32 hl rfl (nI_add i 1) (by decide) rfl (fun ls hl => ?_)
        refine lv_goto (tgt := 7) hx hb dX3_fewestByDropping_35 (by decide) ?_
        exact ih_7 (i + 1) _ _ _ (by omega) (by omega) hP hS (lv_sub hl [2, 3, 4, 1, 0] rfl)
      · refine lv_iconst (v := 1) hx hb dX3_fewestByDropping_25 (by decide) ?_
        refine lv_goto (tgt := 30) hx hb dX3_fewestByDropping_26 (by decide) ?_
        refine lv_iadd hx hb dX3_fewestByDropping_30 ?_
        refine cx_top (show ((poS (R 19) i) + 1) = (poS (R 19) (i + 1)) from by first | exact po_t (by assumption) | exact po_f (by assumption)) ?_
        refine lv_istore_n (lv' := [(3, .int (poS (R 19) (i + 1))), (0, .ref (ad 0)), (1, .int x), (2, .int x), (4, .int (nI i))]) hx hb dX3_fewestByDropping_31 rfl hl (by decide) rfl (fun ls hl => ?_)
        refine lv_iinc (k := 4) (v := (nI (i + 1))) (lv' := [(4, .int (nI (i + 1))), (3, .int (poS (R 19) (i + 1))), (0, .ref (ad 0)), (1, .int x), (2, .int x)]) hx hb dX3_fewestByDropping_32 hl rfl (nI_add i 1) (by decide) rfl (fun ls hl => ?_)
        refine lv_goto (tgt := 7) hx hb dX3_fewestByDropping_35 (by decide) ?_
        exact ih_7 (i + 1) _ _ _ (by omega) (by omega) hP hS (lv_sub hl [2, 3, 4, 1, 0] rfl)
set_option maxHeartbeats 4000000 in
set_option maxRecDepth 100000 in
theorem c_X3_fewestOfAllSets (l : Launch) (D : va_G) (T : Nat → ClassId) (ad : Nat → Nat) (I : Nat → Int32) (R : Nat → Nat → Int32) (x : Int32) : Met l yX3_fewestOfAllSets wsX3_fewestOfAllSets ({ frames := 0, cells := 0, slots := 0, locals := 0 }) (va_Pc [.ref (ad 0), .int x] (CR D T ad I R)) (RqI (faS (R 19) x 256)) 0 0 (fun _ => False) := by
  refine Met.ofW (cc := cX3_fewestOfAllSets) (maxL := 7) (ret := (some .int)) (by decide) rfl ?_
  intro p e s m args_ below meth c s₁ B hml hv
  obtain ⟨rfl, hP, hK, hN⟩ := hv
  have hx := B.exec
  have hb := B.bytes
  have hr := B.returns
  have hts := atoms_spec (ws := wsX3_fewestOfAllSets) B.pre
  have hown : s.vm.findClass RX3 = some m.cls := findClass_of_methodNamed B.named
  have hlocks := B.notSynchronized
  have hinX3 : ∀ w ∈ u_ws RX3 TX3 6, w ∈ wsX3_fewestOfAllSets := by decide +kernel
  have hS : va_S (fun _ => False) s.heap s.heap [] := va_S.rf
  have hl := lv_entry ([.ref (ad 0), .int x]) (n := 7) (Nat.le_of_ble_eq_true rfl)
  rw [lg_entry_eq]
  generalize (lg_sl ([.ref (ad 0), .int x]) ++ List.replicate (7 - (lg_sl ([.ref (ad 0), .int x])).length) Slot.unset).toArray = ls at hl ⊢
  have hl : lv_has ls 7 [(0, .ref (ad 0)), (1, .int x)] := hl
  refine lv_bipush (v := 8) hx hb dX3_fewestOfAllSets_0 (by decide) ?_
  refine lv_istore_n (lv' := [(2, .int 8), (0, .ref (ad 0)), (1, .int x)]) hx hb dX3_fewestOfAllSets_2 rfl hl (by decide) rfl (fun ls hl => ?_)
  refine lv_iconst (v := 0) hx hb dX3_fewestOfAllSets_3 (by decide) ?_
  refine lv_istore_n (lv' := [(3, .int 0), (2, .int 8), (0, .ref (ad 0)), (1, .int x)]) hx hb dX3_fewestOfAllSets_4 rfl hl (by decide) rfl (fun ls hl => ?_)
  suffices ih_5 : ∀ (fu : Nat) (K : Nat) (fw : Int32) (H : Heap) (locs : List Loc) (ls : Array Slot), 256 - K < fu → (K ≤ 256) → (fw = faS (R 19) x K) → va_P D vwCl (cw T ad I R) H →  va_S (fun _ => False) s.heap H locs → lv_has ls 7 [(0, .ref (ad 0)), (1, .int x), (2, .int fw), (3, .int (nI K))] → W p l e (headSpec wsX3_fewestOfAllSets ({ frames := 0, cells := 0, slots := 0, locals := 0 })).room s m ([.ref (ad 0), .int x] : List Value).toArray below meth c H locs 0 0 (MQ below (RqI (faS (R 19) x 256)) ([.ref (ad 0), .int x] : List Value).toArray s 0 0 (fun _ => False)) (F0 m 5 ls []) from
    ih_5 _ 0 8 _ _ _ (Nat.lt_succ_self _) (by omega) (rfl) hP hS (lv_sub hl [2, 3, 1, 0] rfl)
  intro fu
  induction fu with
  | zero => intro K fw H locs ls hfu; exact absurd hfu (Nat.not_lt_zero _)
  | succ fu ih_5 =>
    intro K fw H locs ls hfu hK2 hfw hP hS hl
    refine lv_iload_n hx hb dX3_fewestOfAllSets_5 rfl (lv_at hl 3 rfl) ?_
    refine lv_sipush (v := 256) hx hb dX3_fewestOfAllSets_6 (by decide) ?_
    refine lv_icmp_ge (tgt := 92) hx hb dX3_fewestOfAllSets_9 (by decide) (fun c_9 => ?_) (fun c_9 => ?_)
    · have c_9 : 256 ≤ K := (nI_leI (a := 256) (b := K) (by omega) (by omega)).mp c_9
      obtain rfl : K = 256 := by omega
      refine lv_iload_n hx hb dX3_fewestOfAllSets_92 rfl (lv_at hl 2 rfl) ?_
      exact W.iret (v := fw) hx hb hr (fun t ht hW => ⟨⟨fw, (), rfl, (hfw), trivial⟩, hS.F ht⟩) hS.2.2 dX3_fewestOfAllSets_93
    · have c_9 : ¬ (256 ≤ K) := fun h => c_9 ((nI_leI (a := 256) (b := K) (by omega) (by omega)).mpr h)
      refine lv_iconst (v := 0) hx hb dX3_fewestOfAllSets_12 (by decide) ?_
      refine lv_istore (lv' := [(4, .int 0), (0, .ref (ad 0)), (1, .int x), (2, .int fw), (3, .int (nI K))]) hx hb dX3_fewestOfAllSets_13 hl (by decide) rfl (fun ls hl => ?_)
      refine lv_iconst (v := 0) hx hb dX3_fewestOfAllSets_15 (by decide) ?_
      refine lv_istore (lv' := [(5, .int 0), (4, .int 0), (0, .ref (ad 0)), (1, .int x), (2, .int fw), (3, .int (nI K))]) hx hb dX3_fewestOfAllSets_16 hl (by decide) rfl (fun ls hl => ?_)
      refine lv_iconst (v := 0) hx hb dX3_fewestOfAllSets_18 (by decide) ?_
      refine lv_istore (lv' := [(6, .int 0), (5, .int 0), (4, .int 0), (0, .ref (ad 0)), (1, .int x), (2, .int fw), (3, .int (nI K))]) hx hb dX3_fewestOfAllSets_19 hl (by decide) rfl (fun ls hl => ?_)
      suffices ih_21 : ∀ (fu : Nat) (i : Nat) (w4 : Int32) (e5 : Int32) (H : Heap) (locs : List Loc) (ls : Array Slot), 8 - i < fu → (i ≤ 8) → (e5 = seE (R 19) K i) → (w4 = seW (R 19) K i) → va_P D vwCl (cw T ad I R) H →  va_S (fun _ => False) s.heap H locs → lv_has ls 7 [(0, .ref (ad 0)), (1, .int x), (2, .int fw), (3, .int (nI K)), (4, .int w4), (5, .int e5), (6, .int (nI i))] → W p l e (headSpec wsX3_fewestOfAllSets ({ frames := 0, cells := 0, slots := 0, locals := 0 })).room s m ([.ref (ad 0), .int x] : List Value).toArray below meth c H locs 0 0 (MQ below (RqI (faS (R 19) x 256)) ([.ref (ad 0), .int x] : List Value).toArray s 0 0 (fun _ => False)) (F0 m 21 ls []) from
        ih_21 _ 0 0 0 _ _ _ (Nat.lt_succ_self _) (by omega) (rfl) (rfl) hP hS (lv_sub hl [3, 4, 5, 6, 2, 1, 0] rfl)
      intro fu
      induction fu with
      | zero => intro i w4 e5 H locs ls hfu; exact absurd hfu (Nat.not_lt_zero _)
      | succ fu ih_21 =>
        intro i w4 e5 H locs ls hfu hi he hw4 hP hS hl
        refine lv_iload hx hb dX3_fewestOfAllSets_21 (lv_at hl 6 rfl) ?_
        refine lv_bipush (v := 8) hx hb dX3_fewestOfAllSets_23 (by decide) ?_
        refine lv_icmp_ge (tgt := 71) hx hb dX3_fewestOfAllSets_25 (by decide) (fun c_25 => ?_) (fun c_25 => ?_)
        · have c_25 : 8 ≤ i := (nI_leI (a := 8) (b := i) (by omega) (by omega)).mp c_25
          obtain rfl : i = 8 := by omega
          refine lv_iload hx hb dX3_fewestOfAllSets_71 (lv_at hl 5 rfl) ?_
          refine lv_iload_n hx hb dX3_fewestOfAllSets_73 rfl (lv_at hl 1 rfl) ?_
          refine lv_icmp_gt (tgt := 86) hx hb dX3_fewestOfAllSets_74 (by decide) (fun c_74 => ?_) (fun c_74 => ?_)
          · refine lv_iinc (k := 3) (v := (nI (K + 1))) (lv' := [(3, .int (nI (K + 1))), (0, .ref (ad 0)), (1, .int x), (2, .int fw), (4, .int w4), (5, .int e5), (6, .int (nI 8))]) hx hb dX3_fewestOfAllSets_86 hl rfl (nI_add K 1) (by decide) rfl (fun ls hl => ?_)
            refine lv_goto (tgt := 5) hx hb dX3_fewestOfAllSets_89 (by decide) ?_
            exact ih_5 (K + 1) fw _ _ _ (by omega) (by omega) (by first | exact fa_a he hfw c_74 | exact fa_b he hw4 hfw c_74 c_80 | exact fa_c he hw4 hfw c_74 c_80) hP hS (lv_sub hl [1, 2, 3, 0] rfl)
          · refine lv_iload hx hb dX3_fewestOfAllSets_77 (lv_at hl 4 rfl) ?_
            refine lv_iload_n hx hb dX3_fewestOfAllSets_79 rfl (lv_at hl 2 rfl) ?_
            refine lv_icmp_ge (tgt := 86) hx hb dX3_fewestOfAllSets_80 (by decide) (fun c_80 => ?_) (fun c_80 => ?_)
            · refine lv_iinc (k := 3) (v := (nI (K + 1))) (lv' := [(3, .int (nI (K + 1))), (0, .ref (ad 0)), (1, .int x), (2, .int fw), (4, .int w4), (5, .int e5), (6, .int (nI 8))]) hx hb dX3_fewestOfAllSets_86 hl rfl (nI_add K 1) (by decide) rfl (fun ls hl => ?_)
              refine lv_goto (tgt := 5) hx hb dX3_fewestOfAllSets_89 (by decide) ?_
              exact ih_5 (K + 1) fw _ _ _ (by omega) (by omega) (by first | exact fa_a he hfw c_74 | exact fa_b he hw4 hfw c_74 c_80 | exact fa_c he hw4 hfw c_74 c_80) hP hS (lv_sub hl [1, 2, 3, 0] rfl)
            · refine lv_iload hx hb dX3_fewestOfAllSets_83 (lv_at hl 4 rfl) ?_
              refine lv_istore_n (lv' := [(2, .int w4), (0, .ref (ad 0)), (1, .int x), (3, .int (nI K)), (4, .int w4), (5, .int e5), (6, .int (nI 8))]) hx hb dX3_fewestOfAllSets_85 rfl hl (by decide) rfl (fun ls hl => ?_)
              refine lv_iinc (k := 3) (v := (nI (K + 1))) (lv' := [(3, .int (nI (K + 1))), (2, .int w4), (0, .ref (ad 0)), (1, .int x), (4, .int w4), (5, .int e5), (6, .int (nI 8))]) hx hb dX3_fewestOfAllSets_86 hl rfl (nI_add K 1) (by decide) rfl (fun ls hl => ?_)
              refine lv_goto (tgt := 5) hx hb dX3_fewestOfAllSets_89 (by decide) ?_
              exact ih_5 (K + 1) w4 _ _ _ (by omega) (by omega) (by first | exact fa_a he hfw c_74 | exact fa_b he hw4 hfw c_74 c_80 | exact fa_c he hw4 hfw c_74 c_80) hP hS (lv_sub hl [2, 3, 1, 0] rfl)
        · have c_25 : ¬ (8 ≤ i) := fun h => c_25 ((nI_leI (a := 8) (b := i) (by omega) (by omega)).mpr h)
          refine lv_iload_n hx hb dX3_fewestOfAllSets_28 rfl (lv_at hl 3 rfl) ?_
          refine lv_iload hx hb dX3_fewestOfAllSets_29 (lv_at hl 6 rfl) ?_
          refine lv_ishr hx hb dX3_fewestOfAllSets_31 ?_
          refine lv_iconst (v := 1) hx hb dX3_fewestOfAllSets_32 (by decide) ?_
          refine lv_iand hx hb dX3_fewestOfAllSets_33 ?_
          refine cx_top (show (((nI K) >>> ((nI i) &&& 31)) &&& 1) = (lbI K i) from lb_shr (by omega) (by omega)) ?_
          refine lv_if_ne (tgt := 52) hx hb dX3_fewestOfAllSets_34 (by decide) (fun c_34 => ?_) (fun c_34 => ?_)
          · refine lv_aload_n hx hb dX3_fewestOfAllSets_52 rfl (lv_at hl 0 rfl) ?_
            refine va_get (D := D) (ci := 3) (v := .ref (ad 9)) (C := RX3) (T := TX3) (N := 6) hx hb hts hinX3 hown hK hP 0 cw_0 rfl 5 (by decide) (hts (.fieldLink RX3 38 "SquareGears" "row" "[I") (by decide +kernel)) (fun _ h9 => h9) rfl dX3_fewestOfAllSets_53 ?_
            refine lv_iload hx hb dX3_fewestOfAllSets_56 (lv_at hl 6 rfl) ?_
            refine cx_iald (k := i) hx hb hK hP 9 1 cw_9 rfl (by omega) (by decide) dX3_fewestOfAllSets_58 ?_
            refine lv_if_le (tgt := 65) hx hb dX3_fewestOfAllSets_59 (by decide) (fun c_59 => ?_) (fun c_59 => ?_)
            · refine lv_iinc (k := 6) (v := (nI (i + 1))) (lv' := [(6, .int (nI (i + 1))), (0, .ref (ad 0)), (1, .int x), (2, .int fw), (3, .int (nI K)), (4, .int w4), (5, .int e5)]) hx hb dX3_fewestOfAllSets_65 hl rfl (nI_add i 1) (by decide) rfl (fun ls hl => ?_)
              refine lv_goto (tgt := 21) hx hb dX3_fewestOfAllSets_68 (by decide) ?_
              exact ih_21 (i + 1) w4 e5 _ _ _ (by omega) (by omega) (by simp only [seE]; rw [← he]; simp [c_34]) (by simp only [seW]; rw [← hw4]; simp [*]) hP hS (lv_sub hl [1, 2, 3, 4, 5, 6, 0] rfl)
            · refine lv_iinc (k := 4) (v := (w4 + 1)) (lv' := [(4, .int (w4 + 1)), (0, .ref (ad 0)), (1, .int x), (2, .int fw), (3, .int (nI K)), (5, .int e5), (6, .int (nI i))]) hx hb dX3_fewestOfAllSets_62 hl rfl rfl (by decide) rfl (fun ls hl => ?_)
              refine lv_iinc (k := 6) (v := (nI (i + 1))) (lv' := [(6, .int (nI (i + 1))), (4, .int (w4 + 1)), (0, .ref (ad 0)), (1, .int x), (2, .int fw), (3, .int (nI K)), (5, .int e5)]) hx hb dX3_fewestOfAllSets_65 hl rfl (nI_add i 1) (by decide) rfl (fun ls hl => ?_)
              refine lv_goto (tgt := 21) hx hb dX3_fewestOfAllSets_68 (by decide) ?_
              exact ih_21 (i + 1) (w4 + 1) e5 _ _ _ (by omega) (by omega) (by simp only [seE]; rw [← he]; simp [c_34]) (by simp only [seW]; rw [← hw4]; simp [*]) hP hS (lv_sub hl [2, 3, 4, 5, 1, 6, 0] rfl)
          · refine lv_iload hx hb dX3_fewestOfAllSets_37 (lv_at hl 5 rfl) ?_
            refine lv_aload_n hx hb dX3_fewestOfAllSets_39 rfl (lv_at hl 0 rfl) ?_
            refine va_get (D := D) (ci := 3) (v := .ref (ad 9)) (C := RX3) (T := TX3) (N := 6) hx hb hts hinX3 hown hK hP 0 cw_0 rfl 5 (by decide) (hts (.fieldLink RX3 38 "SquareGears" "row" "[I") (by decide +kernel)) (fun _ h9 => h9) rfl dX3_fewestOfAllSets_40 ?_
            refine lv_iload hx hb dX3_fewestOfAllSets_43 (lv_at hl 6 rfl) ?_
            refine cx_iald (k := i) hx hb hK hP 9 1 cw_9 rfl (by omega) (by decide) dX3_fewestOfAllSets_45 ?_
            refine lv_iadd hx hb dX3_fewestOfAllSets_46 ?_
            refine lv_istore (lv' := [(5, .int (e5 + ((R 19) i))), (0, .ref (ad 0)), (1, .int x), (2, .int fw), (3, .int (nI K)), (4, .int w4), (6, .int (nI i))]) hx hb dX3_fewestOfAllSets_47 hl (by decide) rfl (fun ls hl => ?_)
            refine lv_goto (tgt := 65) hx hb dX3_fewestOfAllSets_49 (by decide) ?_
            refine lv_iinc (k := 6) (v := (nI (i + 1))) (lv' := [(6, .int (nI (i + 1))), (5, .int (e5 + ((R 19) i))), (0, .ref (ad 0)), (1, .int x), (2, .int fw), (3, .int (nI K)), (4, .int w4)]) hx hb dX3_fewestOfAllSets_65 hl rfl (nI_add i 1) (by decide) rfl (fun ls hl => ?_)
            refine lv_goto (tgt := 21) hx hb dX3_fewestOfAllSets_68 (by decide) ?_
            exact ih_21 (i + 1) w4 (e5 + ((R 19) i)) _ _ _ (by omega) (by omega) (by simp only [seE]; rw [← he]; simp [c_34]) (by simp only [seW]; rw [← hw4]; simp [*]) hP hS (lv_sub hl [2, 3, 4, 5, 6, 1, 0] rfl)
set_option maxHeartbeats 4000000 in
set_option maxRecDepth 100000 in
theorem c_X3_fewestNumber (l : Launch) (D : va_G) (T : Nat → ClassId) (ad : Nat → Nat) (I : Nat → Int32) (R : Nat → Nat → Int32) (sz : Nat) (lm : Nat) (x : Int32) (w : Nat) (hAD : AD 34 ad) (hm : lm < 256) (hI : I 4 = nI lm) (hw : w < 2) : Met l yX3_fewestNumber wsX3_fewestNumber ({ frames := 3, cells := 0, slots := 0, locals := 63 }) (va_Pc [.ref (ad 0), .int x, .int (nI w)] (CB D T ad I R sz)) (va_Qi (fun r (f : Nat → Int32) => r = (feF (erF (R 0) lm) x w) ∧ True) (fun (f : Nat → Int32) t => va_P D vwCl (cw T ad I (updR R 19 f)) t.heap) (cA 34 ad sz)) 0 0 (cA 34 ad sz) := by
  refine Met.ofW (cc := cX3_fewestNumber) (maxL := 4) (ret := (some .int)) (by decide) rfl ?_
  intro p e s m args_ below meth c s₁ B hml hv
  obtain ⟨rfl, hsz, hP, hK, hN⟩ := hv
  have hx := B.exec
  have hb := B.bytes
  have hr := B.returns
  have hts := atoms_spec (ws := wsX3_fewestNumber) B.pre
  have hown : s.vm.findClass RX3 = some m.cls := findClass_of_methodNamed B.named
  have hlocks := B.notSynchronized
  have hinX3 : ∀ w ∈ u_ws RX3 TX3 6, w ∈ wsX3_fewestNumber := by decide +kernel
  subst hsz
  have hS : va_S (cA 34 ad s.heap.size) s.heap s.heap [] := va_S.rf
  have hD : ∀ I R, va_D (cA 34 ad s.heap.size) (cw T ad I R) := fun I R => cw_D hAD (fun k hk => cA_in hk)
  have hl := lv_entry ([.ref (ad 0), .int x, .int (nI w)]) (n := 4) (Nat.le_of_ble_eq_true rfl)
  rw [lg_entry_eq]
  generalize (lg_sl ([.ref (ad 0), .int x, .int (nI w)]) ++ List.replicate (4 - (lg_sl ([.ref (ad 0), .int x, .int (nI w)])).length) Slot.unset).toArray = ls at hl ⊢
  have hl : lv_has ls 4 [(0, .ref (ad 0)), (1, .int x), (2, .int (nI w))] := hl
  refine lv_iconst (v := 0) hx hb dX3_fewestNumber_0 (by decide) ?_
  refine lv_istore_n (lv' := [(3, .int 0), (0, .ref (ad 0)), (1, .int x), (2, .int (nI w))]) hx hb dX3_fewestNumber_1 rfl hl (by decide) rfl (fun ls hl => ?_)
  suffices ih_2 : ∀ (fu : Nat) (i : Nat) (f : Nat → Int32) (H : Heap) (locs : List Loc) (ls : Array Slot), 8 - i < fu → (i ≤ 8) → (∀ k, k < i → f k = erF (R 0) lm k) → va_P D vwCl (cw T ad I (updR R 19 f)) H →  va_S (cA 34 ad s.heap.size) s.heap H locs → lv_has ls 4 [(0, .ref (ad 0)), (1, .int x), (2, .int (nI w)), (3, .int (nI i))] → W p l e (headSpec wsX3_fewestNumber ({ frames := 3, cells := 0, slots := 0, locals := 63 })).room s m ([.ref (ad 0), .int x, .int (nI w)] : List Value).toArray below meth c H locs 0 0 (MQ below (va_Qi (fun r (f : Nat → Int32) => r = (feF (erF (R 0) lm) x w) ∧ True) (fun (f : Nat → Int32) t => va_P D vwCl (cw T ad I (updR R 19 f)) t.heap) (cA 34 ad s.heap.size)) ([.ref (ad 0), .int x, .int (nI w)] : List Value).toArray s 0 0 (cA 34 ad s.heap.size)) (F0 m 2 ls []) from
    ih_2 _ 0 (R 19) _ _ _ (Nat.lt_succ_self _) (by omega) (fun k h => absurd h (Nat.not_lt_zero k)) (self19 hP) hS (lv_sub hl [1, 2, 3, 0] rfl)
  intro fu
  induction fu with
  | zero => intro i f H locs ls hfu; exact absurd hfu (Nat.not_lt_zero _)
  | succ fu ih_2 =>
    intro i f H locs ls hfu hi hf hP hS hl
    refine lv_iload_n hx hb dX3_fewestNumber_2 rfl (lv_at hl 3 rfl) ?_
    refine lv_bipush (v := 8) hx hb dX3_fewestNumber_3 (by decide) ?_
    refine lv_icmp_ge (tgt := 28) hx hb dX3_fewestNumber_5 (by decide) (fun c_5 => ?_) (fun c_5 => ?_)
    · have c_5 : 8 ≤ i := (nI_leI (a := 8) (b := i) (by omega) (by omega)).mp c_5
      obtain rfl : i = 8 := by omega
      have hP := upd19 (cx_re hP cw_9 hf cw_R19)
      refine lv_iload_n hx hb dX3_fewestNumber_28 rfl (lv_at hl 2 rfl) ?_
      refine lv_if_ne (tgt := 40) hx hb dX3_fewestNumber_29 (by decide) (fun c_29 => ?_) (fun c_29 => ?_)
      · have c_29 : ¬ (w = 0) := fun h => c_29 ((nI_eq (a := w) (b := 0) (by omega) (by omega)).mpr h)
        refine lv_aload_n hx hb dX3_fewestNumber_40 rfl (lv_at hl 0 rfl) ?_
        refine lv_iload_n hx hb dX3_fewestNumber_41 rfl (lv_at hl 1 rfl) ?_
        refine cx_ri (va_runV (As := [.int x]) (rest := []) ⟨hx, hb, hml, hown, hts⟩ (c_X3_fewestOfAllSets l D T ad I (updR R 19 (erF (R 0) lm)) x) (cwV 1 hts gX3_fewestNumber_X3_fewestOfAllSets rfl rfl rfl (by decide +kernel) ⟨Nat.le_of_ble_eq_true rfl, Nat.le_of_ble_eq_true rfl⟩) ⟨CR.blind, va_recv hK hP (ci := 3) (q0 := 0) rfl cw_0, (CR.pre hP hK hN rfl)⟩ rfl rfl hl.1 rfl (lv_room (Nat.le_of_ble_eq_true rfl)) dX3_fewestNumber_42 ⟨Nat.le_of_ble_eq_true rfl, Nat.le_of_ble_eq_true rfl⟩) hS hP (fun H locs hP hS => ?_)
        exact W.iret (v := (faS ((erF (R 0) lm)) x 256)) hx hb hr (fun t ht hW => ⟨⟨(faS ((erF (R 0) lm)) x 256), (erF (R 0) lm), rfl, ⟨by first | exact (if_pos c_29).symm | exact (if_neg c_29).symm, trivial⟩, by show va_P _ _ _ _; rw [ht]; exact (by first | exact hP | exact upd19 hP)⟩, hS.F ht⟩) hS.2.2 dX3_fewestNumber_45
      · have c_29 : w = 0 := (nI_eq (a := w) (b := 0) (by omega) (by omega)).mp c_29
        refine lv_aload_n hx hb dX3_fewestNumber_32 rfl (lv_at hl 0 rfl) ?_
        refine lv_iload_n hx hb dX3_fewestNumber_33 rfl (lv_at hl 1 rfl) ?_
        refine cx_wi (va_runV (As := [.int x]) (rest := []) ⟨hx, hb, hml, hown, hts⟩ (c_X3_fewestByDropping l D T ad I (updR R 19 (erF (R 0) lm)) _ x (hAD)) (cwV 1 hts gX3_fewestNumber_X3_fewestByDropping rfl rfl rfl (by decide +kernel) ⟨Nat.le_of_ble_eq_true rfl, Nat.le_of_ble_eq_true rfl⟩) ⟨CB.blind, va_recv hK hP (ci := 3) (q0 := 0) rfl cw_0, (CB.pre hP hK hN rfl)⟩ rfl rfl hl.1 rfl (lv_room (Nat.le_of_ble_eq_true rfl)) dX3_fewestNumber_34 ⟨Nat.le_of_ble_eq_true rfl, Nat.le_of_ble_eq_true rfl⟩) hS (cA_le hS.1) (cA_le hS.1) (fun u_34 H locs hu_34 hP hkk hS => ?_)
        refine lv_goto (tgt := 45) hx hb dX3_fewestNumber_37 (by decide) ?_
        exact W.iret (v := (fbR 8 ((erF (R 0) lm)) x (poS ((erF (R 0) lm)) 8))) hx hb hr (fun t ht hW => ⟨⟨(fbR 8 ((erF (R 0) lm)) x (poS ((erF (R 0) lm)) 8)), u_34, rfl, ⟨by first | exact (if_pos c_29).symm | exact (if_neg c_29).symm, trivial⟩, by show va_P _ _ _ _; rw [ht]; exact (by first | exact hP | exact upd19 hP)⟩, hS.F ht⟩) hS.2.2 dX3_fewestNumber_45
    · have c_5 : ¬ (8 ≤ i) := fun h => c_5 ((nI_leI (a := 8) (b := i) (by omega) (by omega)).mpr h)
      refine lv_aload_n hx hb dX3_fewestNumber_8 rfl (lv_at hl 0 rfl) ?_
      refine va_get (D := D) (ci := 3) (v := .ref (ad 9)) (C := RX3) (T := TX3) (N := 6) hx hb hts hinX3 hown hK hP 0 cw_0 rfl 5 (by decide) (hts (.fieldLink RX3 38 "SquareGears" "row" "[I") (by decide +kernel)) (fun _ h9 => h9) rfl dX3_fewestNumber_9 ?_
      refine lv_iload_n hx hb dX3_fewestNumber_12 rfl (lv_at hl 3 rfl) ?_
      refine lv_aload_n hx hb dX3_fewestNumber_13 rfl (lv_at hl 0 rfl) ?_
      refine va_get (D := D) (ci := 3) (v := .ref (ad 1)) (C := RX3) (T := TX3) (N := 6) hx hb hts hinX3 hown hK hP 0 cw_0 rfl 0 (by decide) (hts (.fieldLink RX3 12 "SquareGears" "now" "LSquareGears$Gears;") (by decide +kernel)) (fun _ h9 => h9) rfl dX3_fewestNumber_14 ?_
      refine lv_iload_n hx hb dX3_fewestNumber_17 rfl (lv_at hl 3 rfl) ?_
      refine cx_ri (va_runVN (As := [.int (nI i)]) (rest := [.int (nI i), .ref (ad 9)]) ⟨hx, hb, hml, hown, hts⟩ (c_X0_errorWithout l D T ad I (updR R 19 f) lm i (hm) (hI) (by omega)) ⟨va_cnB 1 hts gX3_fewestNumber_X0_errorWithout_n269 rfl rfl rfl (nwm_X3_269 hN) (hts (.initialized RX0) (by decide +kernel)) (by decide +kernel) ⟨Nat.le_of_ble_eq_true rfl, Nat.le_of_ble_eq_true rfl⟩, (hts (.instanceMethod yX0_errorWithout) (by decide +kernel)), (hts (.selects RX0 yX0_errorWithout yX0_errorWithout) (by decide +kernel))⟩ ⟨CR.blind, va_recv hK hP (ci := 0) (q0 := 1) rfl cw_1, (CR.pre hP hK hN rfl)⟩ rfl rfl hl.1 rfl (lv_room (Nat.le_of_ble_eq_true rfl)) dX3_fewestNumber_18 ⟨Nat.le_of_ble_eq_true rfl, Nat.le_of_ble_eq_true rfl⟩) hS hP (fun H locs hP hS => ?_)
      refine cx_iast (k := i) hx hb hK hP (hD _ _) hS 9 1 cw_9 rfl (by omega) (by decide) cw_R19 dX3_fewestNumber_21 (fun H locs hP hS => ?_)
      refine lv_iinc (k := 3) (v := (nI (i + 1))) (lv' := [(3, .int (nI (i + 1))), (0, .ref (ad 0)), (1, .int x), (2, .int (nI w))]) hx hb dX3_fewestNumber_22 hl rfl (nI_add i 1) (by decide) rfl (fun ls hl => ?_)
      refine lv_goto (tgt := 2) hx hb dX3_fewestNumber_25 (by decide) ?_
      exact ih_2 (i + 1) (upd f i (8 * dr ((R 0)) lm i * dr ((R 0)) lm i)) _ _ _ (by omega) (by omega) (up_lt hf rfl) (upd19 hP) hS (lv_sub hl [1, 2, 3, 0] rfl)

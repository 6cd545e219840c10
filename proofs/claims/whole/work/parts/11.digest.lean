set_option maxHeartbeats 4000000 in
set_option maxRecDepth 100000 in
theorem c_X3_digest (l : Launch) (D : va_G) (T : Nat → ClassId) (ad : Nat → Nat) (I : Nat → Int32) (R : Nat → Nat → Int32) (sz : Nat) (lm : Nat) (ks : Nat) (len : Nat) (hAD : AD 34 ad) (hm : lm < 256) (hI : I 4 = nI lm) (hks : ks < 4) (hIk : I 0 = nI ks) (hlen : len ≤ 60) (hI3 : I 3 = nI len) (hnd : NND) (hnb : NNB (msF (dr (R 0) lm))) : Met l yX3_digest wsX3_digest ({ frames := 6, cells := 0, slots := 0, locals := 134 }) (va_Pc [.ref (ad 0)] (CB D T ad I R sz)) (va_Ql (fun r (f : Nat → Int32) => r = (dgF (R 0) (R 1) lm (I 5) (I 2) ks len (R 18)) ∧ True) (fun (f : Nat → Int32) t => va_P D vwCl (cw T ad I (updR R 19 f)) t.heap) (cA 34 ad sz)) 0 0 (cA 34 ad sz) := by
  refine Met.ofW (cc := cX3_digest) (maxL := 4) (ret := (some .long)) (by decide) rfl ?_
  intro p e s m args_ below meth c s₁ B hml hv
  obtain ⟨rfl, hsz, hP, hK, hN⟩ := hv
  have hx := B.exec
  have hb := B.bytes
  have hr := B.returns
  have hts := atoms_spec (ws := wsX3_digest) B.pre
  have hown : s.vm.findClass RX3 = some m.cls := findClass_of_methodNamed B.named
  have hlocks := B.notSynchronized
  have hinX2 : ∀ w ∈ u_ws RX2 TX2 2, w ∈ wsX3_digest := by decide +kernel
  have hinX3 : ∀ w ∈ u_ws RX3 TX3 6, w ∈ wsX3_digest := by decide +kernel
  subst hsz
  have hS : va_S (cA 34 ad s.heap.size) s.heap s.heap [] := va_S.rf
  have hD : ∀ I R, va_D (cA 34 ad s.heap.size) (cw T ad I R) := fun I R => cw_D hAD (fun k hk => cA_in hk)
  have hl := lv_entry ([.ref (ad 0)]) (n := 4) (Nat.le_of_ble_eq_true rfl)
  rw [lg_entry_eq]
  generalize (lg_sl ([.ref (ad 0)]) ++ List.replicate (4 - (lg_sl ([.ref (ad 0)])).length) Slot.unset).toArray = ls at hl ⊢
  have hl : lv_has ls 4 [(0, .ref (ad 0))] := hl
  refine lv_ldc2 (v := 3733) hx hb hown (hts (.constantLong RX3 204 (3733)) (by decide +kernel)) dX3_digest_0 ?_
  refine lv_lstore_n (lv' := [(1, .long (3733)), (0, .ref (ad 0))]) hx hb dX3_digest_3 rfl hl (by decide) rfl (fun ls hl => ?_)
  refine lv_iconst (v := 0) hx hb dX3_digest_4 (by decide) ?_
  refine lv_istore_n (lv' := [(3, .int 0), (1, .long (3733)), (0, .ref (ad 0))]) hx hb dX3_digest_5 rfl hl (by decide) rfl (fun ls hl => ?_)
  suffices ih_6 : ∀ (fu : Nat) (w : Nat) (H : Heap) (locs : List Loc) (ls : Array Slot), 9 - w < fu → (w ≤ 9) → va_P D vwCl (cw T ad I R) H →  va_S (cA 34 ad s.heap.size) s.heap H locs → lv_has ls 4 [(0, .ref (ad 0)), (1, .long (hcS (cnF (R 0) (R 1) lm (I 5) (I 2)) w)), (3, .int (nI w))] → W p l e (headSpec wsX3_digest ({ frames := 6, cells := 0, slots := 0, locals := 134 })).room s m ([.ref (ad 0)] : List Value).toArray below meth c H locs 0 0 (MQ below (va_Ql (fun r (f : Nat → Int32) => r = (dgF (R 0) (R 1) lm (I 5) (I 2) ks len (R 18)) ∧ True) (fun (f : Nat → Int32) t => va_P D vwCl (cw T ad I (updR R 19 f)) t.heap) (cA 34 ad s.heap.size)) ([.ref (ad 0)] : List Value).toArray s 0 0 (cA 34 ad s.heap.size)) (F0 m 6 ls []) from
    ih_6 _ 0 _ _ _ (Nat.lt_succ_self _) (by omega) hP hS (lv_sub hl [2, 1, 0] rfl)
  intro fu
  induction fu with
  | zero => intro w H locs ls hfu; exact absurd hfu (Nat.not_lt_zero _)
  | succ fu ih_6 =>
    intro w H locs ls hfu hw9 hP hS hl
    refine lv_iload_n hx hb dX3_digest_6 rfl (lv_at hl 2 rfl) ?_
    refine lv_bipush (v := 8) hx hb dX3_digest_7 (by decide) ?_
    refine lv_icmp_gt (tgt := 29) hx hb dX3_digest_9 (by decide) (fun c_9 => ?_) (fun c_9 => ?_)
    · have c_9 : 8 < w := (nI_ltI (a := 8) (b := w) (by omega) (by omega)).mp c_9
      obtain rfl : w = 9 := by omega
      refine lv_aload_n hx hb dX3_digest_29 rfl (lv_at hl 0 rfl) ?_
      refine lv_lload_n hx hb dX3_digest_30 rfl (lv_at hl 1 rfl) ?_
      refine cx_rl (va_runV (As := [.long (hcS (cnF (R 0) (R 1) lm (I 5) (I 2)) 9)]) (rest := []) ⟨hx, hb, hml, hown, hts⟩ (c_X3_hashedWheels l D T ad I R lm (hcS (cnF (R 0) (R 1) lm (I 5) (I 2)) 9) (hm) (hI)) (cwV 1 hts gX3_digest_X3_hashedWheels rfl rfl rfl (by decide +kernel) ⟨Nat.le_of_ble_eq_true rfl, Nat.le_of_ble_eq_true rfl⟩) ⟨CR.blind, va_recv hK hP (ci := 3) (q0 := 0) rfl cw_0, (CR.pre hP hK hN rfl)⟩ rfl rfl hl.1 rfl (lv_room (Nat.le_of_ble_eq_true rfl)) dX3_digest_31 ⟨Nat.le_of_ble_eq_true rfl, Nat.le_of_ble_eq_true rfl⟩) hS hP (fun H locs hP hS => ?_)
      refine cx_topl (show (hwS (wnF ((R 0)) ((R 1)) lm) (hcS (cnF ((R 0)) ((R 1)) lm (I 5) (I 2)) 9) 8) = (dgB (R 0) (R 1) lm (I 5) (I 2)) from rfl) ?_
      refine lv_lstore_n (lv' := [(1, .long (dgB (R 0) (R 1) lm (I 5) (I 2))), (0, .ref (ad 0)), (3, .int (nI 9))]) hx hb dX3_digest_34 rfl hl (by decide) rfl (fun ls hl => ?_)
      refine lv_aload_n hx hb dX3_digest_35 rfl (lv_at hl 1 rfl) ?_
      refine lv_lload_n hx hb dX3_digest_36 rfl (lv_at hl 0 rfl) ?_
      refine cx_wl (va_runV (As := [.long (dgB (R 0) (R 1) lm (I 5) (I 2))]) (rest := []) ⟨hx, hb, hml, hown, hts⟩ (c_X3_hashedPoints l D T ad I R _ lm (dgB (R 0) (R 1) lm (I 5) (I 2)) (hAD) (hm) (hI)) (cwV 1 hts gX3_digest_X3_hashedPoints rfl rfl rfl (by decide +kernel) ⟨Nat.le_of_ble_eq_true rfl, Nat.le_of_ble_eq_true rfl⟩) ⟨CB.blind, va_recv hK hP (ci := 3) (q0 := 0) rfl cw_0, (CB.pre hP hK hN rfl)⟩ rfl rfl hl.1 rfl (lv_room (Nat.le_of_ble_eq_true rfl)) dX3_digest_37 ⟨Nat.le_of_ble_eq_true rfl, Nat.le_of_ble_eq_true rfl⟩) hS (cA_le hS.1) (cA_le hS.1) (fun u_37 H locs hu_37 hP hkk hS => ?_)
      refine cx_topl (show (hpS (dr ((R 0)) lm) (pnF ((R 1)) (dr ((R 0)) lm)) (dgB ((R 0)) ((R 1)) lm (I 5) (I 2)) 8) = (dgC (R 0) (R 1) lm (I 5) (I 2)) from rfl) ?_
      refine lv_lstore_n (lv' := [(1, .long (dgC (R 0) (R 1) lm (I 5) (I 2))), (0, .ref (ad 0)), (3, .int (nI 9))]) hx hb dX3_digest_40 rfl hl (by decide) rfl (fun ls hl => ?_)
      refine lv_lload_n hx hb dX3_digest_41 rfl (lv_at hl 0 rfl) ?_
      refine lv_aload_n hx hb dX3_digest_42 rfl (lv_at hl 1 rfl) ?_
      refine cx_ri (va_runV (As := []) (rest := [.long (dgC (R 0) (R 1) lm (I 5) (I 2))]) ⟨hx, hb, hml, hown, hts⟩ (c_X3_findLost l D T ad I (updR R 19 u_37) lm (hm) (hI)) (cwV 0 hts gX3_digest_X3_findLost rfl rfl rfl (by decide +kernel) ⟨Nat.le_of_ble_eq_true rfl, Nat.le_of_ble_eq_true rfl⟩) ⟨CR.blind, va_recv hK hP (ci := 3) (q0 := 0) rfl cw_0, (CR.pre hP hK hN rfl)⟩ rfl rfl hl.1 rfl (lv_room (Nat.le_of_ble_eq_true rfl)) dX3_digest_43 ⟨Nat.le_of_ble_eq_true rfl, Nat.le_of_ble_eq_true rfl⟩) hS hP (fun H locs hP hS => ?_)
      refine lv_i2l hx hb dX3_digest_46 rfl ?_
      refine cx_rl (va_runS (As := [.long (dgC (R 0) (R 1) lm (I 5) (I 2)), .long (Int32.toInt64 (flF (diF ((R 1)) (dr ((R 0)) lm))))]) (rest := []) ⟨hx, hb, hml, hown, hts⟩ (c_X3_hashed l  (dgC (R 0) (R 1) lm (I 5) (I 2)) (Int32.toInt64 (flF (diF ((R 1)) (dr ((R 0)) lm))))) (va_cwS 2 hts gX3_digest_X3_hashed rfl rfl rfl (by decide +kernel) ⟨Nat.le_of_ble_eq_true rfl, Nat.le_of_ble_eq_true rfl⟩) ⟨pc_blind, (fun U hU hW => ⟨rfl, trivial⟩)⟩ rfl rfl hl.1 rfl (lv_room (Nat.le_of_ble_eq_true rfl)) dX3_digest_47 ⟨Nat.le_of_ble_eq_true rfl, Nat.le_of_ble_eq_true rfl⟩) hS hP (fun H locs hP hS => ?_)
      refine cx_topl (show (hs (dgC (R 0) (R 1) lm (I 5) (I 2)) (Int32.toInt64 (flF (diF ((R 1)) (dr ((R 0)) lm))))) = (dgD (R 0) (R 1) lm (I 5) (I 2)) from rfl) ?_
      refine lv_lstore_n (lv' := [(1, .long (dgD (R 0) (R 1) lm (I 5) (I 2))), (0, .ref (ad 0)), (3, .int (nI 9))]) hx hb dX3_digest_50 rfl hl (by decide) rfl (fun ls hl => ?_)
      refine lv_aload_n hx hb dX3_digest_51 rfl (lv_at hl 1 rfl) ?_
      refine lv_lload_n hx hb dX3_digest_52 rfl (lv_at hl 0 rfl) ?_
      refine lv_iconst (v := 0) hx hb dX3_digest_53 (by decide) ?_
      refine cx_wl (va_runV (As := [.long (dgD (R 0) (R 1) lm (I 5) (I 2)), .int 0]) (rest := []) ⟨hx, hb, hml, hown, hts⟩ (c_X3_hashedFewest l D T ad I (updR R 19 u_37) _ lm (dgD (R 0) (R 1) lm (I 5) (I 2)) 0 (hAD) (hm) (hI)) (cwV 2 hts gX3_digest_X3_hashedFewest rfl rfl rfl (by decide +kernel) ⟨Nat.le_of_ble_eq_true rfl, Nat.le_of_ble_eq_true rfl⟩) ⟨CB.blind, va_recv hK hP (ci := 3) (q0 := 0) rfl cw_0, (CB.pre hP hK hN rfl)⟩ rfl rfl hl.1 rfl (lv_room (Nat.le_of_ble_eq_true rfl)) dX3_digest_54 ⟨Nat.le_of_ble_eq_true rfl, Nat.le_of_ble_eq_true rfl⟩) hS (cA_le hS.1) (cA_le hS.1) (fun u_54 H locs hu_54 hP hkk hS => ?_)
      have hP := upd19 hP
      refine cx_topl (show (hs (hs (dgD ((R 0)) ((R 1)) lm (I 5) (I 2)) (Int32.toInt64 (feF (erF ((R 0)) lm) 0 0))) (Int32.toInt64 (feF (erF ((R 0)) lm) 0 1))) = (dgE (R 0) lm 0 (dgD (R 0) (R 1) lm (I 5) (I 2))) from rfl) ?_
      refine lv_lstore_n (lv' := [(1, .long (dgE (R 0) lm 0 (dgD (R 0) (R 1) lm (I 5) (I 2)))), (0, .ref (ad 0)), (3, .int (nI 9))]) hx hb dX3_digest_57 rfl hl (by decide) rfl (fun ls hl => ?_)
      refine lv_aload_n hx hb dX3_digest_58 rfl (lv_at hl 1 rfl) ?_
      refine lv_lload_n hx hb dX3_digest_59 rfl (lv_at hl 0 rfl) ?_
      refine lv_sipush (v := 1000) hx hb dX3_digest_60 (by decide) ?_
      refine cx_wl (va_runV (As := [.long (dgE (R 0) lm 0 (dgD (R 0) (R 1) lm (I 5) (I 2))), .int 1000]) (rest := []) ⟨hx, hb, hml, hown, hts⟩ (c_X3_hashedFewest l D T ad I (updR R 19 u_54) _ lm (dgE (R 0) lm 0 (dgD (R 0) (R 1) lm (I 5) (I 2))) 1000 (hAD) (hm) (hI)) (cwV 2 hts gX3_digest_X3_hashedFewest rfl rfl rfl (by decide +kernel) ⟨Nat.le_of_ble_eq_true rfl, Nat.le_of_ble_eq_true rfl⟩) ⟨CB.blind, va_recv hK hP (ci := 3) (q0 := 0) rfl cw_0, (CB.pre hP hK hN rfl)⟩ rfl rfl hl.1 rfl (lv_room (Nat.le_of_ble_eq_true rfl)) dX3_digest_63 ⟨Nat.le_of_ble_eq_true rfl, Nat.le_of_ble_eq_true rfl⟩) hS (cA_le hS.1) (cA_le hS.1) (fun u_63 H locs hu_63 hP hkk hS => ?_)
      have hP := upd19 hP
      refine cx_topl (show (hs (hs (dgE ((R 0)) lm 0 (dgD ((R 0)) ((R 1)) lm (I 5) (I 2))) (Int32.toInt64 (feF (erF ((R 0)) lm) 1000 0))) (Int32.toInt64 (feF (erF ((R 0)) lm) 1000 1))) = (dgE (R 0) lm 1000 (dgE (R 0) lm 0 (dgD (R 0) (R 1) lm (I 5) (I 2)))) from rfl) ?_
      refine lv_lstore_n (lv' := [(1, .long (dgE (R 0) lm 1000 (dgE (R 0) lm 0 (dgD (R 0) (R 1) lm (I 5) (I 2))))), (0, .ref (ad 0)), (3, .int (nI 9))]) hx hb dX3_digest_66 rfl hl (by decide) rfl (fun ls hl => ?_)
      refine lv_aload_n hx hb dX3_digest_67 rfl (lv_at hl 1 rfl) ?_
      refine lv_lload_n hx hb dX3_digest_68 rfl (lv_at hl 0 rfl) ?_
      refine lv_ldc (v := 100000) hx hb hown (hts (.constant RX3 224 (100000)) (by decide +kernel)) dX3_digest_69 ?_
      refine cx_wl (va_runV (As := [.long (dgE (R 0) lm 1000 (dgE (R 0) lm 0 (dgD (R 0) (R 1) lm (I 5) (I 2)))), .int 100000]) (rest := []) ⟨hx, hb, hml, hown, hts⟩ (c_X3_hashedFewest l D T ad I (updR R 19 u_63) _ lm (dgE (R 0) lm 1000 (dgE (R 0) lm 0 (dgD (R 0) (R 1) lm (I 5) (I 2)))) 100000 (hAD) (hm) (hI)) (cwV 2 hts gX3_digest_X3_hashedFewest rfl rfl rfl (by decide +kernel) ⟨Nat.le_of_ble_eq_true rfl, Nat.le_of_ble_eq_true rfl⟩) ⟨CB.blind, va_recv hK hP (ci := 3) (q0 := 0) rfl cw_0, (CB.pre hP hK hN rfl)⟩ rfl rfl hl.1 rfl (lv_room (Nat.le_of_ble_eq_true rfl)) dX3_digest_71 ⟨Nat.le_of_ble_eq_true rfl, Nat.le_of_ble_eq_true rfl⟩) hS (cA_le hS.1) (cA_le hS.1) (fun u_71 H locs hu_71 hP hkk hS => ?_)
      have hP := upd19 hP
      refine cx_topl (show (hs (hs (dgE ((R 0)) lm 1000 (dgE ((R 0)) lm 0 (dgD ((R 0)) ((R 1)) lm (I 5) (I 2)))) (Int32.toInt64 (feF (erF ((R 0)) lm) 100000 0))) (Int32.toInt64 (feF (erF ((R 0)) lm) 100000 1))) = (dgG (R 0) (R 1) lm (I 5) (I 2)) from rfl) ?_
      refine lv_lstore_n (lv' := [(1, .long (dgG (R 0) (R 1) lm (I 5) (I 2))), (0, .ref (ad 0)), (3, .int (nI 9))]) hx hb dX3_digest_74 rfl hl (by decide) rfl (fun ls hl => ?_)
      refine lv_iconst (v := 0) hx hb dX3_digest_75 (by decide) ?_
      refine lv_istore_n (lv' := [(3, .int 0), (1, .long (dgG (R 0) (R 1) lm (I 5) (I 2))), (0, .ref (ad 0))]) hx hb dX3_digest_76 rfl hl (by decide) rfl (fun ls hl => ?_)
      suffices ih_77 : ∀ (fu : Nat) (i : Nat) (H : Heap) (locs : List Loc) (ls : Array Slot), 8 - i < fu → (i ≤ 8) → va_P D vwCl (cw T ad I (updR R 19 u_71)) H →  va_S (cA 34 ad s.heap.size) s.heap H locs → lv_has ls 4 [(0, .ref (ad 0)), (1, .long (hfS (tuS5 (dr (R 0) lm)) (dgG (R 0) (R 1) lm (I 5) (I 2)) i)), (3, .int (nI i))] → W p l e (headSpec wsX3_digest ({ frames := 6, cells := 0, slots := 0, locals := 134 })).room s m ([.ref (ad 0)] : List Value).toArray below meth c H locs 0 0 (MQ below (va_Ql (fun r (f : Nat → Int32) => r = (dgF (R 0) (R 1) lm (I 5) (I 2) ks len (R 18)) ∧ True) (fun (f : Nat → Int32) t => va_P D vwCl (cw T ad I (updR R 19 f)) t.heap) (cA 34 ad s.heap.size)) ([.ref (ad 0)] : List Value).toArray s 0 0 (cA 34 ad s.heap.size)) (F0 m 77 ls []) from
        ih_77 _ 0 _ _ _ (Nat.lt_succ_self _) (by omega) hP hS (lv_sub hl [2, 1, 0] rfl)
      intro fu
      induction fu with
      | zero => intro i H locs ls hfu; exact absurd hfu (Nat.not_lt_zero _)
      | succ fu ih_77 =>
        intro i H locs ls hfu hi hP hS hl
        refine lv_iload_n hx hb dX3_digest_77 rfl (lv_at hl 2 rfl) ?_
        refine lv_bipush (v := 8) hx hb dX3_digest_78 (by decide) ?_
        refine lv_icmp_ge (tgt := 105) hx hb dX3_digest_80 (by decide) (fun c_80 => ?_) (fun c_80 => ?_)
        · have c_80 : 8 ≤ i := (nI_leI (a := 8) (b := i) (by omega) (by omega)).mp c_80
          obtain rfl : i = 8 := by omega
          refine lv_lload_n hx hb dX3_digest_105 rfl (lv_at hl 1 rfl) ?_
          refine lv_aload_n hx hb dX3_digest_106 rfl (lv_at hl 0 rfl) ?_
          refine cx_ri (va_runV (As := []) (rest := [.long (hfS (tuS5 (dr (R 0) lm)) (dgG (R 0) (R 1) lm (I 5) (I 2)) 8)]) ⟨hx, hb, hml, hown, hts⟩ (c_X3_bestTurn l D T ad I (updR R 19 u_71) lm (hm) (hI)) (cwV 0 hts gX3_digest_X3_bestTurn rfl rfl rfl (by decide +kernel) ⟨Nat.le_of_ble_eq_true rfl, Nat.le_of_ble_eq_true rfl⟩) ⟨CR.blind, va_recv hK hP (ci := 3) (q0 := 0) rfl cw_0, (CR.pre hP hK hN rfl)⟩ rfl rfl hl.1 rfl (lv_room (Nat.le_of_ble_eq_true rfl)) dX3_digest_107 ⟨Nat.le_of_ble_eq_true rfl, Nat.le_of_ble_eq_true rfl⟩) hS hP (fun H locs hP hS => ?_)
          refine lv_i2l hx hb dX3_digest_110 rfl ?_
          refine cx_rl (va_runS (As := [.long (hfS (tuS5 (dr (R 0) lm)) (dgG (R 0) (R 1) lm (I 5) (I 2)) 8), .long (Int32.toInt64 (nI (btS (fun b => dtS ((R 1)) (dr ((R 0)) lm) b 8) 7)))]) (rest := []) ⟨hx, hb, hml, hown, hts⟩ (c_X3_hashed l  (hfS (tuS5 (dr (R 0) lm)) (dgG (R 0) (R 1) lm (I 5) (I 2)) 8) (Int32.toInt64 (nI (btS (fun b => dtS ((R 1)) (dr ((R 0)) lm) b 8) 7)))) (va_cwS 2 hts gX3_digest_X3_hashed rfl rfl rfl (by decide +kernel) ⟨Nat.le_of_ble_eq_true rfl, Nat.le_of_ble_eq_true rfl⟩) ⟨pc_blind, (fun U hU hW => ⟨rfl, trivial⟩)⟩ rfl rfl hl.1 rfl (lv_room (Nat.le_of_ble_eq_true rfl)) dX3_digest_111 ⟨Nat.le_of_ble_eq_true rfl, Nat.le_of_ble_eq_true rfl⟩) hS hP (fun H locs hP hS => ?_)
          refine lv_lstore_n (lv' := [(1, .long (hs (hfS (tuS5 (dr (R 0) lm)) (dgG (R 0) (R 1) lm (I 5) (I 2)) 8) (Int32.toInt64 (nI (btS (fun b => dtS ((R 1)) (dr ((R 0)) lm) b 8) 7))))), (0, .ref (ad 0)), (3, .int (nI 8))]) hx hb dX3_digest_114 rfl hl (by decide) rfl (fun ls hl => ?_)
          refine lv_lload_n hx hb dX3_digest_115 rfl (lv_at hl 0 rfl) ?_
          refine lv_aload_n hx hb dX3_digest_116 rfl (lv_at hl 1 rfl) ?_
          refine cx_rd (va_runV (As := []) (rest := [.long (hs (hfS (tuS5 (dr (R 0) lm)) (dgG (R 0) (R 1) lm (I 5) (I 2)) 8) (Int32.toInt64 (nI (btS (fun b => dtS ((R 1)) (dr ((R 0)) lm) b 8) 7))))]) ⟨hx, hb, hml, hown, hts⟩ (c_X3_mainShare l D T ad I (updR R 19 u_71) lm (hm) (hI) (hnd)) (cwV 0 hts gX3_digest_X3_mainShare rfl rfl rfl (by decide +kernel) ⟨Nat.le_of_ble_eq_true rfl, Nat.le_of_ble_eq_true rfl⟩) ⟨CR.blind, va_recv hK hP (ci := 3) (q0 := 0) rfl cw_0, (CR.pre hP hK hN rfl)⟩ rfl rfl hl.1 rfl (lv_room (Nat.le_of_ble_eq_true rfl)) dX3_digest_117 ⟨Nat.le_of_ble_eq_true rfl, Nat.le_of_ble_eq_true rfl⟩) hS hP (fun H locs hP hS => ?_)
          refine cx_rl (va_runS (As := [.double (msF (dr ((R 0)) lm))]) (rest := [.long (hs (hfS (tuS5 (dr (R 0) lm)) (dgG (R 0) (R 1) lm (I 5) (I 2)) 8) (Int32.toInt64 (nI (btS (fun b => dtS ((R 1)) (dr ((R 0)) lm) b 8) 7))))]) ⟨hx, hb, hml, hown, hts⟩ (c_X3_bitsOfShare l  (msF (dr ((R 0)) lm)) (hnb)) (va_cwS 1 hts gX3_digest_X3_bitsOfShare rfl rfl rfl (by decide +kernel) ⟨Nat.le_of_ble_eq_true rfl, Nat.le_of_ble_eq_true rfl⟩) ⟨pc_blind, (fun U hU hW => ⟨rfl, trivial⟩)⟩ rfl rfl hl.1 rfl (lv_room (Nat.le_of_ble_eq_true rfl)) dX3_digest_120 ⟨Nat.le_of_ble_eq_true rfl, Nat.le_of_ble_eq_true rfl⟩) hS hP (fun H locs hP hS => ?_)
          refine cx_rl (va_runS (As := [.long (hs (hfS (tuS5 (dr (R 0) lm)) (dgG (R 0) (R 1) lm (I 5) (I 2)) 8) (Int32.toInt64 (nI (btS (fun b => dtS ((R 1)) (dr ((R 0)) lm) b 8) 7)))), .long (bsF (msF (dr ((R 0)) lm)))]) (rest := []) ⟨hx, hb, hml, hown, hts⟩ (c_X3_hashed l  (hs (hfS (tuS5 (dr (R 0) lm)) (dgG (R 0) (R 1) lm (I 5) (I 2)) 8) (Int32.toInt64 (nI (btS (fun b => dtS ((R 1)) (dr ((R 0)) lm) b 8) 7)))) (bsF (msF (dr ((R 0)) lm)))) (va_cwS 2 hts gX3_digest_X3_hashed rfl rfl rfl (by decide +kernel) ⟨Nat.le_of_ble_eq_true rfl, Nat.le_of_ble_eq_true rfl⟩) ⟨pc_blind, (fun U hU hW => ⟨rfl, trivial⟩)⟩ rfl rfl hl.1 rfl (lv_room (Nat.le_of_ble_eq_true rfl)) dX3_digest_123 ⟨Nat.le_of_ble_eq_true rfl, Nat.le_of_ble_eq_true rfl⟩) hS hP (fun H locs hP hS => ?_)
          refine cx_topl (show (hs (hs (hfS (tuS5 (dr (R 0) lm)) (dgG (R 0) (R 1) lm (I 5) (I 2)) 8) (Int32.toInt64 (nI (btS (fun b => dtS ((R 1)) (dr ((R 0)) lm) b 8) 7)))) (bsF (msF (dr ((R 0)) lm)))) = (dgJ (R 0) (R 1) lm (I 5) (I 2)) from rfl) ?_
          refine lv_lstore_n (lv' := [(1, .long (dgJ (R 0) (R 1) lm (I 5) (I 2))), (0, .ref (ad 0)), (3, .int (nI 8))]) hx hb dX3_digest_126 rfl hl (by decide) rfl (fun ls hl => ?_)
          refine lv_iconst (v := 0) hx hb dX3_digest_127 (by decide) ?_
          refine lv_istore_n (lv' := [(3, .int 0), (1, .long (dgJ (R 0) (R 1) lm (I 5) (I 2))), (0, .ref (ad 0))]) hx hb dX3_digest_128 rfl hl (by decide) rfl (fun ls hl => ?_)
          suffices ih_129 : ∀ (fu : Nat) (j : Nat) (hh : Int64) (H : Heap) (locs : List Loc) (ls : Array Slot), 2 - j < fu → (j ≤ 2) → (hh = hkI ks (dgJ (R 0) (R 1) lm (I 5) (I 2)) j) → va_P D vwCl (cw T ad I (updR R 19 u_71)) H →  va_S (cA 34 ad s.heap.size) s.heap H locs → lv_has ls 4 [(0, .ref (ad 0)), (1, .long (hh)), (3, .int (nI j))] → W p l e (headSpec wsX3_digest ({ frames := 6, cells := 0, slots := 0, locals := 134 })).room s m ([.ref (ad 0)] : List Value).toArray below meth c H locs 0 0 (MQ below (va_Ql (fun r (f : Nat → Int32) => r = (dgF (R 0) (R 1) lm (I 5) (I 2) ks len (R 18)) ∧ True) (fun (f : Nat → Int32) t => va_P D vwCl (cw T ad I (updR R 19 f)) t.heap) (cA 34 ad s.heap.size)) ([.ref (ad 0)] : List Value).toArray s 0 0 (cA 34 ad s.heap.size)) (F0 m 129 ls []) from
            ih_129 _ 0 (dgJ (R 0) (R 1) lm (I 5) (I 2)) _ _ _ (Nat.lt_succ_self _) (by omega) (rfl) hP hS (lv_sub hl [2, 1, 0] rfl)
          intro fu
          induction fu with
          | zero => intro j hh H locs ls hfu; exact absurd hfu (Nat.not_lt_zero _)
          | succ fu ih_129 =>
            intro j hh H locs ls hfu hj2 hhk hP hS hl
            refine lv_iload_n hx hb dX3_digest_129 rfl (lv_at hl 2 rfl) ?_
            refine lv_iconst (v := 2) hx hb dX3_digest_130 (by decide) ?_
            refine lv_icmp_ge (tgt := 158) hx hb dX3_digest_131 (by decide) (fun c_131 => ?_) (fun c_131 => ?_)
            · have c_131 : 2 ≤ j := (nI_leI (a := 2) (b := j) (by omega) (by omega)).mp c_131
              obtain rfl : j = 2 := by omega
              refine lv_lload_n hx hb dX3_digest_158 rfl (lv_at hl 1 rfl) ?_
              refine lv_aload_n hx hb dX3_digest_159 rfl (lv_at hl 0 rfl) ?_
              refine va_get (D := D) (ci := 3) (v := .ref (ad 7)) (C := RX3) (T := TX3) (N := 6) hx hb hts hinX3 hown hK hP 0 cw_0 rfl 4 (by decide) (hts (.fieldLink RX3 34 "SquareGears" "text" "LSquareGears$WheelText;") (by decide +kernel)) (fun _ h9 => h9) rfl dX3_digest_160 ?_
              refine va_getN (D := D) (ci := 2) (v := .int (I 3)) (C := RX2) (T := TX2) (N := 2) hx hb hts hinX2 hown hK hP 7 cw_7 rfl 1 (by decide) (nw_use rfl (nwf_X3_126 hN)) (fun _ h9 => h9) rfl dX3_digest_163 ?_
              refine cx_top (show (I 3) = (nI len) from hI3) ?_
              refine lv_i2l hx hb dX3_digest_166 rfl ?_
              refine cx_rl (va_runS (As := [.long (hh), .long (Int32.toInt64 (nI len))]) (rest := []) ⟨hx, hb, hml, hown, hts⟩ (c_X3_hashed l  hh (Int32.toInt64 (nI len))) (va_cwS 2 hts gX3_digest_X3_hashed rfl rfl rfl (by decide +kernel) ⟨Nat.le_of_ble_eq_true rfl, Nat.le_of_ble_eq_true rfl⟩) ⟨pc_blind, (fun U hU hW => ⟨rfl, trivial⟩)⟩ rfl rfl hl.1 rfl (lv_room (Nat.le_of_ble_eq_true rfl)) dX3_digest_167 ⟨Nat.le_of_ble_eq_true rfl, Nat.le_of_ble_eq_true rfl⟩) hS hP (fun H locs hP hS => ?_)
              refine cx_topl (show (hs hh (Int32.toInt64 (nI len))) = (dgK (R 0) (R 1) lm (I 5) (I 2) ks len) from by rw [hhk]; rfl) ?_
              refine lv_lstore_n (lv' := [(1, .long (dgK (R 0) (R 1) lm (I 5) (I 2) ks len)), (0, .ref (ad 0)), (3, .int (nI 2))]) hx hb dX3_digest_170 rfl hl (by decide) rfl (fun ls hl => ?_)
              refine lv_iconst (v := 0) hx hb dX3_digest_171 (by decide) ?_
              refine lv_istore_n (lv' := [(3, .int 0), (1, .long (dgK (R 0) (R 1) lm (I 5) (I 2) ks len)), (0, .ref (ad 0))]) hx hb dX3_digest_172 rfl hl (by decide) rfl (fun ls hl => ?_)
              suffices ih_173 : ∀ (fu : Nat) (i : Nat) (H : Heap) (locs : List Loc) (ls : Array Slot), len - i < fu → (i ≤ len) → va_P D vwCl (cw T ad I (updR R 19 u_71)) H →  va_S (cA 34 ad s.heap.size) s.heap H locs → lv_has ls 4 [(0, .ref (ad 0)), (1, .long (hfS (R 18) (dgK (R 0) (R 1) lm (I 5) (I 2) ks len) i)), (3, .int (nI i))] → W p l e (headSpec wsX3_digest ({ frames := 6, cells := 0, slots := 0, locals := 134 })).room s m ([.ref (ad 0)] : List Value).toArray below meth c H locs 0 0 (MQ below (va_Ql (fun r (f : Nat → Int32) => r = (dgF (R 0) (R 1) lm (I 5) (I 2) ks len (R 18)) ∧ True) (fun (f : Nat → Int32) t => va_P D vwCl (cw T ad I (updR R 19 f)) t.heap) (cA 34 ad s.heap.size)) ([.ref (ad 0)] : List Value).toArray s 0 0 (cA 34 ad s.heap.size)) (F0 m 173 ls []) from
                ih_173 _ 0 _ _ _ (Nat.lt_succ_self _) (by omega) hP hS (lv_sub hl [2, 1, 0] rfl)
              intro fu
              induction fu with
              | zero => intro i H locs ls hfu; exact absurd hfu (Nat.not_lt_zero _)
              | succ fu ih_173 =>
                intro i H locs ls hfu hil hP hS hl
                refine lv_iload_n hx hb dX3_digest_173 rfl (lv_at hl 2 rfl) ?_
                refine lv_aload_n hx hb dX3_digest_174 rfl (lv_at hl 0 rfl) ?_
                refine va_get (D := D) (ci := 3) (v := .ref (ad 7)) (C := RX3) (T := TX3) (N := 6) hx hb hts hinX3 hown hK hP 0 cw_0 rfl 4 (by decide) (hts (.fieldLink RX3 34 "SquareGears" "text" "LSquareGears$WheelText;") (by decide +kernel)) (fun _ h9 => h9) rfl dX3_digest_175 ?_
                refine va_getN (D := D) (ci := 2) (v := .int (I 3)) (C := RX2) (T := TX2) (N := 2) hx hb hts hinX2 hown hK hP 7 cw_7 rfl 1 (by decide) (nw_use rfl (nwf_X3_126 hN)) (fun _ h9 => h9) rfl dX3_digest_178 ?_
                refine cx_top (show (I 3) = (nI len) from hI3) ?_
                refine lv_icmp_ge (tgt := 205) hx hb dX3_digest_181 (by decide) (fun c_181 => ?_) (fun c_181 => ?_)
                · have c_181 : len ≤ i := (nI_leI (a := len) (b := i) (by omega) (by omega)).mp c_181
                  have e9 : i = len := by omega
                  refine lv_lload_n hx hb dX3_digest_205 rfl (lv_at hl 1 rfl) ?_
                  exact W.lret (v := (hfS (R 18) (dgK (R 0) (R 1) lm (I 5) (I 2) ks len) i)) hx hb hr (fun t ht hW => ⟨⟨(hfS (R 18) (dgK (R 0) (R 1) lm (I 5) (I 2) ks len) i), u_71, rfl, ⟨by rw [e9]; rfl, trivial⟩, by show va_P _ _ _ _; rw [ht]; exact hP⟩, hS.F ht⟩) hS.2.2 dX3_digest_206
                · have c_181 : ¬ (len ≤ i) := fun h => c_181 ((nI_leI (a := len) (b := i) (by omega) (by omega)).mpr h)
                  refine lv_lload_n hx hb dX3_digest_184 rfl (lv_at hl 1 rfl) ?_
                  refine lv_aload_n hx hb dX3_digest_185 rfl (lv_at hl 0 rfl) ?_
                  refine va_get (D := D) (ci := 3) (v := .ref (ad 7)) (C := RX3) (T := TX3) (N := 6) hx hb hts hinX3 hown hK hP 0 cw_0 rfl 4 (by decide) (hts (.fieldLink RX3 34 "SquareGears" "text" "LSquareGears$WheelText;") (by decide +kernel)) (fun _ h9 => h9) rfl dX3_digest_186 ?_
                  refine va_getN (D := D) (ci := 2) (v := .ref (ad 8)) (C := RX2) (T := TX2) (N := 2) hx hb hts hinX2 hown hK hP 7 cw_7 rfl 0 (by decide) (nw_use rfl (nwf_X3_236 hN)) (fun _ h9 => h9) rfl dX3_digest_189 ?_
                  refine lv_iload_n hx hb dX3_digest_192 rfl (lv_at hl 2 rfl) ?_
                  refine cx_cald (k := i) hx hb hK hP 8 0 cw_8 rfl (by omega) (by decide) dX3_digest_193 ?_
                  refine lv_i2l hx hb dX3_digest_194 rfl ?_
                  refine cx_rl (va_runS (As := [.long (hfS (R 18) (dgK (R 0) (R 1) lm (I 5) (I 2) ks len) i), .long (Int32.toInt64 ((R 18) i))]) (rest := []) ⟨hx, hb, hml, hown, hts⟩ (c_X3_hashed l  (hfS (R 18) (dgK (R 0) (R 1) lm (I 5) (I 2) ks len) i) (Int32.toInt64 ((R 18) i))) (va_cwS 2 hts gX3_digest_X3_hashed rfl rfl rfl (by decide +kernel) ⟨Nat.le_of_ble_eq_true rfl, Nat.le_of_ble_eq_true rfl⟩) ⟨pc_blind, (fun U hU hW => ⟨rfl, trivial⟩)⟩ rfl rfl hl.1 rfl (lv_room (Nat.le_of_ble_eq_true rfl)) dX3_digest_195 ⟨Nat.le_of_ble_eq_true rfl, Nat.le_of_ble_eq_true rfl⟩) hS hP (fun H locs hP hS => ?_)
                  refine lv_lstore_n (lv' := [(1, .long (hs (hfS (R 18) (dgK (R 0) (R 1) lm (I 5) (I 2) ks len) i) (Int32.toInt64 ((R 18) i)))), (0, .ref (ad 0)), (3, .int (nI i))]) hx hb dX3_digest_198 rfl hl (by decide) rfl (fun ls hl => ?_)
                  refine lv_iinc (k := 2) (v := (nI (i + 1))) (lv' := [(3, .int (nI (i + 1))), (1, .long (hs (hfS (R 18) (dgK (R 0) (R 1) lm (I 5) (I 2) ks len) i) (Int32.toInt64 ((R 18) i)))), (0, .ref (ad 0))]) hx hb dX3_digest_199 hl rfl (nI_add i 1) (by decide) rfl (fun ls hl => ?_)
                  refine lv_goto (tgt := 173) hx hb dX3_digest_202 (by decide) ?_
                  exact ih_173 (i + 1) _ _ _ (by omega) (by omega) hP hS (lv_sub hl [2, 1, 0] rfl)
            · have c_131 : ¬ (2 ≤ j) := fun h => c_131 ((nI_leI (a := 2) (b := j) (by omega) (by omega)).mpr h)
              refine lv_lload_n hx hb dX3_digest_134 rfl (lv_at hl 1 rfl) ?_
              refine lv_aload_n hx hb dX3_digest_135 rfl (lv_at hl 0 rfl) ?_
              refine lv_iload_n hx hb dX3_digest_136 rfl (lv_at hl 2 rfl) ?_
              refine cx_ri (va_runV (As := [.int (nI j)]) (rest := [.long (hh)]) ⟨hx, hb, hml, hown, hts⟩ (c_X3_hasSnapshot l D T ad I (updR R 19 u_71) ks j (hks) (hIk) (by omega)) (cwV 1 hts gX3_digest_X3_hasSnapshot rfl rfl rfl (by decide +kernel) ⟨Nat.le_of_ble_eq_true rfl, Nat.le_of_ble_eq_true rfl⟩) ⟨CR.blind, va_recv hK hP (ci := 3) (q0 := 0) rfl cw_0, (CR.pre hP hK hN rfl)⟩ rfl rfl hl.1 rfl (lv_room (Nat.le_of_ble_eq_true rfl)) dX3_digest_137 ⟨Nat.le_of_ble_eq_true rfl, Nat.le_of_ble_eq_true rfl⟩) hS hP (fun H locs hP hS => ?_)
              refine lv_if_eq (tgt := 147) hx hb dX3_digest_140 (by decide) (fun c_140 => ?_) (fun c_140 => ?_)
              · refine lv_lconst (v := 0) hx hb dX3_digest_147 (by decide) ?_
                refine cx_rl (va_runS (As := [.long (hh), .long (0)]) (rest := []) ⟨hx, hb, hml, hown, hts⟩ (c_X3_hashed l  hh 0) (va_cwS 2 hts gX3_digest_X3_hashed rfl rfl rfl (by decide +kernel) ⟨Nat.le_of_ble_eq_true rfl, Nat.le_of_ble_eq_true rfl⟩) ⟨pc_blind, (fun U hU hW => ⟨rfl, trivial⟩)⟩ rfl rfl hl.1 rfl (lv_room (Nat.le_of_ble_eq_true rfl)) dX3_digest_148 ⟨Nat.le_of_ble_eq_true rfl, Nat.le_of_ble_eq_true rfl⟩) hS hP (fun H locs hP hS => ?_)
                refine lv_lstore_n (lv' := [(1, .long (hs hh 0)), (0, .ref (ad 0)), (3, .int (nI j))]) hx hb dX3_digest_151 rfl hl (by decide) rfl (fun ls hl => ?_)
                refine lv_iinc (k := 2) (v := (nI (j + 1))) (lv' := [(3, .int (nI (j + 1))), (1, .long (hs hh 0)), (0, .ref (ad 0))]) hx hb dX3_digest_152 hl rfl (nI_add j 1) (by decide) rfl (fun ls hl => ?_)
                refine lv_goto (tgt := 129) hx hb dX3_digest_155 (by decide) ?_
                exact ih_129 (j + 1) (hs hh 0) _ _ _ (by omega) (by omega) (by first | exact hk_t hhk c_140 | exact hk_f hhk c_140) hP hS (lv_sub hl [2, 1, 0] rfl)
              · refine lv_lconst (v := 1) hx hb dX3_digest_143 (by decide) ?_
                refine lv_goto (tgt := 148) hx hb dX3_digest_144 (by decide) ?_
                refine cx_rl (va_runS (As := [.long (hh), .long (1)]) (rest := []) ⟨hx, hb, hml, hown, hts⟩ (c_X3_hashed l  hh 1) (va_cwS 2 hts gX3_digest_X3_hashed rfl rfl rfl (by decide +kernel) ⟨Nat.le_of_ble_eq_true rfl, Nat.le_of_ble_eq_true rfl⟩) ⟨pc_blind, (fun U hU hW => ⟨rfl, trivial⟩)⟩ rfl rfl hl.1 rfl (lv_room (Nat.le_of_ble_eq_true rfl)) dX3_digest_148 ⟨Nat.le_of_ble_eq_true rfl, Nat.le_of_ble_eq_true rfl⟩) hS hP (fun H locs hP hS => ?_)
                refine lv_lstore_n (lv' := [(1, .long (hs hh 1)), (0, .ref (ad 0)), (3, .int (nI j))]) hx hb dX3_digest_151 rfl hl (by decide) rfl (fun ls hl => ?_)
                refine lv_iinc (k := 2) (v := (nI (j + 1))) (lv' := [(3, .int (nI (j + 1))), (1, .long (hs hh 1)), (0, .ref (ad 0))]) hx hb dX3_digest_152 hl rfl (nI_add j 1) (by decide) rfl (fun ls hl => ?_)
                refine lv_goto (tgt := 129) hx hb dX3_digest_155 (by decide) ?_
                exact ih_129 (j + 1) (hs hh 1) _ _ _ (by omega) (by omega) (by first | exact hk_t hhk c_140 | exact hk_f hhk c_140) hP hS (lv_sub hl [2, 1, 0] rfl)
        · have c_80 : ¬ (8 ≤ i) := fun h => c_80 ((nI_leI (a := 8) (b := i) (by omega) (by omega)).mpr h)
          refine lv_lload_n hx hb dX3_digest_83 rfl (lv_at hl 1 rfl) ?_
          refine lv_aload_n hx hb dX3_digest_84 rfl (lv_at hl 0 rfl) ?_
          refine va_get (D := D) (ci := 3) (v := .ref (ad 1)) (C := RX3) (T := TX3) (N := 6) hx hb hts hinX3 hown hK hP 0 cw_0 rfl 0 (by decide) (hts (.fieldLink RX3 12 "SquareGears" "now" "LSquareGears$Gears;") (by decide +kernel)) (fun _ h9 => h9) rfl dX3_digest_85 ?_
          refine lv_iload_n hx hb dX3_digest_88 rfl (lv_at hl 2 rfl) ?_
          refine lv_iconst (v := 5) hx hb dX3_digest_89 (by decide) ?_
          refine lv_ixor hx hb dX3_digest_90 ?_
          refine cx_top (show ((nI i) ^^^ 5) = (nI (i ^^^ 5)) from nI_xor (by omega) (b := 5) (by decide)) ?_
          refine cx_ri (va_runVN (As := [.int (nI (i ^^^ 5))]) (rest := [.long (hfS (tuS5 (dr (R 0) lm)) (dgG (R 0) (R 1) lm (I 5) (I 2)) i)]) ⟨hx, hb, hml, hown, hts⟩ (c_X0_traceAt l D T ad I (updR R 19 u_71) lm (i ^^^ 5) (hm) (hI) (xor_lt (by omega) (by decide))) ⟨va_cnB 1 hts gX3_digest_X0_traceAt_n96 rfl rfl rfl (nwm_X3_96 hN) (hts (.initialized RX0) (by decide +kernel)) (by decide +kernel) ⟨Nat.le_of_ble_eq_true rfl, Nat.le_of_ble_eq_true rfl⟩, (hts (.instanceMethod yX0_traceAt) (by decide +kernel)), (hts (.selects RX0 yX0_traceAt yX0_traceAt) (by decide +kernel))⟩ ⟨CR.blind, va_recv hK hP (ci := 0) (q0 := 1) rfl cw_1, (CR.pre hP hK hN rfl)⟩ rfl rfl hl.1 rfl (lv_room (Nat.le_of_ble_eq_true rfl)) dX3_digest_91 ⟨Nat.le_of_ble_eq_true rfl, Nat.le_of_ble_eq_true rfl⟩) hS hP (fun H locs hP hS => ?_)
          refine cx_top (show (trS (dr ((R 0)) lm) (i ^^^ 5) 8) = (tuS5 (dr (R 0) lm) i) from rfl) ?_
          refine lv_i2l hx hb dX3_digest_94 rfl ?_
          refine cx_rl (va_runS (As := [.long (hfS (tuS5 (dr (R 0) lm)) (dgG (R 0) (R 1) lm (I 5) (I 2)) i), .long (Int32.toInt64 (tuS5 (dr (R 0) lm) i))]) (rest := []) ⟨hx, hb, hml, hown, hts⟩ (c_X3_hashed l  (hfS (tuS5 (dr (R 0) lm)) (dgG (R 0) (R 1) lm (I 5) (I 2)) i) (Int32.toInt64 (tuS5 (dr (R 0) lm) i))) (va_cwS 2 hts gX3_digest_X3_hashed rfl rfl rfl (by decide +kernel) ⟨Nat.le_of_ble_eq_true rfl, Nat.le_of_ble_eq_true rfl⟩) ⟨pc_blind, (fun U hU hW => ⟨rfl, trivial⟩)⟩ rfl rfl hl.1 rfl (lv_room (Nat.le_of_ble_eq_true rfl)) dX3_digest_95 ⟨Nat.le_of_ble_eq_true rfl, Nat.le_of_ble_eq_true rfl⟩) hS hP (fun H locs hP hS => ?_)
          refine lv_lstore_n (lv' := [(1, .long (hs (hfS (tuS5 (dr (R 0) lm)) (dgG (R 0) (R 1) lm (I 5) (I 2)) i) (Int32.toInt64 (tuS5 (dr (R 0) lm) i)))), (0, .ref (ad 0)), (3, .int (nI i))]) hx hb dX3_digest_98 rfl hl (by decide) rfl (fun ls hl => ?_)
          refine lv_iinc (k := 2) (v := (nI (i + 1))) (lv' := [(3, .int (nI (i + 1))), (1, .long (hs (hfS (tuS5 (dr (R 0) lm)) (dgG (R 0) (R 1) lm (I 5) (I 2)) i) (Int32.toInt64 (tuS5 (dr (R 0) lm) i)))), (0, .ref (ad 0))]) hx hb dX3_digest_99 hl rfl (nI_add i 1) (by decide) rfl (fun ls hl => ?_)
          refine lv_goto (tgt := 77) hx hb dX3_digest_102 (by decide) ?_
          exact ih_77 (i + 1) _ _ _ (by omega) (by omega) hP hS (lv_sub hl [2, 1, 0] rfl)
    · have c_9 : ¬ (8 < w) := fun h => c_9 ((nI_ltI (a := 8) (b := w) (by omega) (by omega)).mpr h)
      refine lv_lload_n hx hb dX3_digest_12 rfl (lv_at hl 1 rfl) ?_
      refine lv_aload_n hx hb dX3_digest_13 rfl (lv_at hl 0 rfl) ?_
      refine lv_iload_n hx hb dX3_digest_14 rfl (lv_at hl 2 rfl) ?_
      refine cx_ri (va_runV (As := [.int (nI w)]) (rest := [.long (hcS (cnF (R 0) (R 1) lm (I 5) (I 2)) w)]) ⟨hx, hb, hml, hown, hts⟩ (c_X3_countNumber l D T ad I R lm w (hm) (hI) (by omega)) (cwV 1 hts gX3_digest_X3_countNumber rfl rfl rfl (by decide +kernel) ⟨Nat.le_of_ble_eq_true rfl, Nat.le_of_ble_eq_true rfl⟩) ⟨CR.blind, va_recv hK hP (ci := 3) (q0 := 0) rfl cw_0, (CR.pre hP hK hN rfl)⟩ rfl rfl hl.1 rfl (lv_room (Nat.le_of_ble_eq_true rfl)) dX3_digest_15 ⟨Nat.le_of_ble_eq_true rfl, Nat.le_of_ble_eq_true rfl⟩) hS hP (fun H locs hP hS => ?_)
      refine lv_i2l hx hb dX3_digest_18 rfl ?_
      refine cx_rl (va_runS (As := [.long (hcS (cnF (R 0) (R 1) lm (I 5) (I 2)) w), .long (Int32.toInt64 (cnF ((R 0)) ((R 1)) lm (I 5) (I 2) w))]) (rest := []) ⟨hx, hb, hml, hown, hts⟩ (c_X3_hashed l  (hcS (cnF (R 0) (R 1) lm (I 5) (I 2)) w) (Int32.toInt64 (cnF ((R 0)) ((R 1)) lm (I 5) (I 2) w))) (va_cwS 2 hts gX3_digest_X3_hashed rfl rfl rfl (by decide +kernel) ⟨Nat.le_of_ble_eq_true rfl, Nat.le_of_ble_eq_true rfl⟩) ⟨pc_blind, (fun U hU hW => ⟨rfl, trivial⟩)⟩ rfl rfl hl.1 rfl (lv_room (Nat.le_of_ble_eq_true rfl)) dX3_digest_19 ⟨Nat.le_of_ble_eq_true rfl, Nat.le_of_ble_eq_true rfl⟩) hS hP (fun H locs hP hS => ?_)
      refine lv_lstore_n (lv' := [(1, .long (hs (hcS (cnF (R 0) (R 1) lm (I 5) (I 2)) w) (Int32.toInt64 (cnF ((R 0)) ((R 1)) lm (I 5) (I 2) w)))), (0, .ref (ad 0)), (3, .int (nI w))]) hx hb dX3_digest_22 rfl hl (by decide) rfl (fun ls hl => ?_)
      refine lv_iinc (k := 2) (v := (nI (w + 1))) (lv' := [(3, .int (nI (w + 1))), (1, .long (hs (hcS (cnF (R 0) (R 1) lm (I 5) (I 2)) w) (Int32.toInt64 (cnF ((R 0)) ((R 1)) lm (I 5) (I 2) w)))), (0, .ref (ad 0))]) hx hb dX3_digest_23 hl rfl (nI_add w 1) (by decide) rfl (fun ls hl => ?_)
      refine lv_goto (tgt := 6) hx hb dX3_digest_26 (by decide) ?_
      exact ih_6 (w + 1) _ _ _ (by omega) (by omega) hP hS (lv_sub hl [2, 1, 0] rfl)

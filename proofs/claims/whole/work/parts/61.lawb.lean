set_option maxHeartbeats 4000000 in
set_option maxRecDepth 100000 in
theorem lc_copy {p : Program} {l : Launch} {e : Env} {s : State} {m : MethodId} {args : Array Value} {below : List Frame} {meth : Method} {c : Code} {H : Heap} {locs : List Loc} {cells slots : Nat} {Q : State → Prop} {D : va_G} {T : Nat → ClassId} {ad ad2 : Nat → Nat} {ao : Nat} {b : Addr} {L : Nat} {xs : Nat → Int32} {ls : Array Slot} {i : Nat} (C0 : LwF p l s m c args D T ad ad2 ao b L xs) (J : LJ D T ad ad2 ao H) (hS : va_S (LwA s) s.heap H locs) (hl : lv_has ls 9 (lwLv b ad ad2 ao i)) (hi : i + 2 < L) (hc : cells + 1 ≤ 649774) (hs : slots + 6 ≤ 7146782) (kN : LwK p l e s m args below meth c Q D T ad ad2 ao b i cells slots) : W p l e room_1 s m args below meth c H locs cells slots Q (F0 m 452 ls []) := by
  have C1 := C0
  obtain ⟨hx, hb, hml, hown, hts, hK, hN, hXU, hXZ, hNc, hAD, hAD2, hap, hao, hao2, hge, hge2, hgo, hX, hbl, hlt, hL⟩ := C1
  obtain ⟨I, R, I2, R2, g, m9, nx, ct, ks, len, hP, hM, hO, hJ, hNm⟩ := lj_norm J
  have hc0 : cells + 0 ≤ room_1.cells := show cells + 0 ≤ 649774 by omega
  have hs0 : slots + 0 ≤ room_1.slots := show slots + 0 ≤ 7146782 by omega
  have hc1 : cells + 1 ≤ room_1.cells := hc
  have hs1 : slots + 6 ≤ room_1.slots := hs
  have hnx : nx < 6 := hJ.2.1.1
  have hct : ct ≤ 6 := hJ.2.1.2.1
  have hI1 : I 1 = nI nx := hJ.2.1.2.2.1
  have hI2 : I 2 = nI ct := hJ.2.1.2.2.2.1
  have hI21 : I2 1 = nI ct := hJ.2.2.1
  have hI4 : I 4 = nI m9 := hJ.1.1
  have hrl : RlW m9 (R2 0) := hJ.1.2.1
  have hm : m9 < 256 := hrl.1
  have hI5 : I 5 = R2 0 24 := hJ.1.2.2.1
  have hbd : BdA (R2 0) := hJ.1.2.2.2.2.2
  have hks : ks < 4 := hJ.2.2.2.1.1
  have hI0 : I 0 = nI ks := hJ.2.2.2.1.2.1
  have hTx : TxT (R2 4) len := hJ.2.2.2.2.1
  have hlen : len ≤ 60 := hTx.1
  have hI3 : I 3 = nI len := hJ.2.2.2.2.2.1
  have hI22 : I2 2 = nI len := hJ.2.2.2.2.2.2.1
  have n0 : R 0 = R2 0 := hNm.1
  have n1 : R 1 = qz (R2 0) := hNm.2.1
  have n18 : R 18 = R2 4 := hNm.2.2
  refine lv_aload_n hx hb dL_law_452 rfl (lv_at hl 1 rfl) ?_
  refine lw_ci C0 hS hM hO (va_runV (As := []) (rest := []) ⟨hx, hb, hml, hown, hts⟩ (c_X3_copy l D T ad I R _ nx ct m9 hAD hnx hct hI1 hI2 hm hI4) (cwV 0 hts gL_law_X3_copy rfl rfl rfl (by decide +kernel) ⟨Nat.le_of_ble_eq_true rfl, Nat.le_of_ble_eq_true rfl⟩) ⟨CB.blind, va_recv hK hP (ci := 3) (q0 := 0) rfl cw_0, CB.pre hP hK hN rfl⟩ rfl rfl hl.1 rfl (lv_room (Nat.le_of_ble_eq_true rfl)) dL_law_453 ⟨hc0, hs0⟩) (fun u1 H locs hv hP hO hM hS => ?_)
  refine lv_aload_n hx hb dL_law_456 rfl (lv_at hl 2 rfl) ?_
  refine lw_mi C0 hS hP hO (va_runV (As := []) (rest := [_]) ⟨hx, hb, hml, hown, hts⟩ (c_X4_copy l D T ad2 I2 R2 _ ct hAD2 hct hI21) (cwV 0 hts gL_law_X4_copy rfl rfl rfl (by decide +kernel) ⟨Nat.le_of_ble_eq_true rfl, Nat.le_of_ble_eq_true rfl⟩) ⟨MB.blind, va_recv hK hM (ci := 4) (q0 := 0) rfl mw_0, MB.pre hM hK rfl⟩ rfl rfl hl.1 rfl (lv_room (Nat.le_of_ble_eq_true rfl)) dL_law_457 ⟨hc0, hs0⟩) (fun u2 H locs hu hP hO hM hS => ?_)
  have hE : cgS (R 1) (fun n => trS (dr (R 0) m9) n 8) 8 = cgS (qz (R2 0)) (cpT (R2 0)) 8 := by rw [n0, n1]; exact rl_cg hrl
  refine lv_icmp_eq (tgt := 1237) hx hb dL_law_460 (by decide) (fun _ => ?_) (fun h => absurd hE h)
  exact kN H locs ls _ _ ⟨_, _, _, _, g, _, _, _, _, _, hP, hM, hO, (st_copy hJ hNm hu)⟩ hS hl (by omega) (by omega)
set_option maxHeartbeats 4000000 in
set_option maxRecDepth 100000 in
theorem lc_fit {p : Program} {l : Launch} {e : Env} {s : State} {m : MethodId} {args : Array Value} {below : List Frame} {meth : Method} {c : Code} {H : Heap} {locs : List Loc} {cells slots : Nat} {Q : State → Prop} {D : va_G} {T : Nat → ClassId} {ad ad2 : Nat → Nat} {ao : Nat} {b : Addr} {L : Nat} {xs : Nat → Int32} {ls : Array Slot} {i : Nat} (C0 : LwF p l s m c args D T ad ad2 ao b L xs) (J : LJ D T ad ad2 ao H) (hS : va_S (LwA s) s.heap H locs) (hl : lv_has ls 9 (lwLv b ad ad2 ao i)) (hi : i + 2 < L) (hc : cells + 1 ≤ 649774) (hs : slots + 6 ≤ 7146782) (kN : LwK p l e s m args below meth c Q D T ad ad2 ao b i cells slots) : W p l e room_1 s m args below meth c H locs cells slots Q (F0 m 465 ls []) := by
  have C1 := C0
  obtain ⟨hx, hb, hml, hown, hts, hK, hN, hXU, hXZ, hNc, hAD, hAD2, hap, hao, hao2, hge, hge2, hgo, hX, hbl, hlt, hL⟩ := C1
  obtain ⟨I, R, I2, R2, g, m9, nx, ct, ks, len, hP, hM, hO, hJ, hNm⟩ := lj_norm J
  have hc0 : cells + 0 ≤ room_1.cells := show cells + 0 ≤ 649774 by omega
  have hs0 : slots + 0 ≤ room_1.slots := show slots + 0 ≤ 7146782 by omega
  have hc1 : cells + 1 ≤ room_1.cells := hc
  have hs1 : slots + 6 ≤ room_1.slots := hs
  have hnx : nx < 6 := hJ.2.1.1
  have hct : ct ≤ 6 := hJ.2.1.2.1
  have hI1 : I 1 = nI nx := hJ.2.1.2.2.1
  have hI2 : I 2 = nI ct := hJ.2.1.2.2.2.1
  have hI21 : I2 1 = nI ct := hJ.2.2.1
  have hI4 : I 4 = nI m9 := hJ.1.1
  have hrl : RlW m9 (R2 0) := hJ.1.2.1
  have hm : m9 < 256 := hrl.1
  have hI5 : I 5 = R2 0 24 := hJ.1.2.2.1
  have hbd : BdA (R2 0) := hJ.1.2.2.2.2.2
  have hks : ks < 4 := hJ.2.2.2.1.1
  have hI0 : I 0 = nI ks := hJ.2.2.2.1.2.1
  have hTx : TxT (R2 4) len := hJ.2.2.2.2.1
  have hlen : len ≤ 60 := hTx.1
  have hI3 : I 3 = nI len := hJ.2.2.2.2.2.1
  have hI22 : I2 2 = nI len := hJ.2.2.2.2.2.2.1
  have n0 : R 0 = R2 0 := hNm.1
  have n1 : R 1 = qz (R2 0) := hNm.2.1
  have n18 : R 18 = R2 4 := hNm.2.2
  refine lv_aload_n hx hb dL_law_465 rfl (lv_at hl 1 rfl) ?_
  refine lw_ci C0 hS hM hO (va_runV (As := []) (rest := []) ⟨hx, hb, hml, hown, hts⟩ (c_X3_fit l D T ad I R _ nx ct hAD hnx hct hI1 hI2) (cwV 0 hts gL_law_X3_fit rfl rfl rfl (by decide +kernel) ⟨Nat.le_of_ble_eq_true rfl, Nat.le_of_ble_eq_true rfl⟩) ⟨CB.blind, va_recv hK hP (ci := 3) (q0 := 0) rfl cw_0, CB.pre hP hK hN rfl⟩ rfl rfl hl.1 rfl (lv_room (Nat.le_of_ble_eq_true rfl)) dL_law_466 ⟨hc0, hs0⟩) (fun u1 H locs hv hP hO hM hS => ?_)
  refine lv_aload_n hx hb dL_law_469 rfl (lv_at hl 2 rfl) ?_
  refine lw_mi C0 hS hP hO (va_runV (As := []) (rest := [_]) ⟨hx, hb, hml, hown, hts⟩ (c_X4_fit l D T ad2 I2 R2 _ ct hAD2 hct hI21) (cwV 0 hts gL_law_X4_fit rfl rfl rfl (by decide +kernel) ⟨Nat.le_of_ble_eq_true rfl, Nat.le_of_ble_eq_true rfl⟩) ⟨MB.blind, va_recv hK hM (ci := 4) (q0 := 0) rfl mw_0, MB.pre hM hK rfl⟩ rfl rfl hl.1 rfl (lv_room (Nat.le_of_ble_eq_true rfl)) dL_law_470 ⟨hc0, hs0⟩) (fun u2 H locs hu hP hO hM hS => ?_)
  have hE : cgS (R 0) (fiF (R 1)) 8 = cgS (R2 0) (fiF (qz (R2 0))) 8 := by rw [n0, n1]
  refine lv_icmp_eq (tgt := 1237) hx hb dL_law_473 (by decide) (fun _ => ?_) (fun h => absurd hE h)
  exact kN H locs ls _ _ ⟨_, _, _, _, g, _, _, _, _, _, hP, hM, hO, (st_fit hJ hNm hu)⟩ hS hl (by omega) (by omega)
set_option maxHeartbeats 4000000 in
set_option maxRecDepth 100000 in
theorem lc_append {p : Program} {l : Launch} {e : Env} {s : State} {m : MethodId} {args : Array Value} {below : List Frame} {meth : Method} {c : Code} {H : Heap} {locs : List Loc} {cells slots : Nat} {Q : State → Prop} {D : va_G} {T : Nat → ClassId} {ad ad2 : Nat → Nat} {ao : Nat} {b : Addr} {L : Nat} {xs : Nat → Int32} {ls : Array Slot} {i : Nat} (C0 : LwF p l s m c args D T ad ad2 ao b L xs) (J : LJ D T ad ad2 ao H) (hS : va_S (LwA s) s.heap H locs) (hl : lv_has ls 9 (lwLv b ad ad2 ao i)) (hi : i + 2 < L) (hc : cells + 1 ≤ 649774) (hs : slots + 6 ≤ 7146782) (kN : LwK p l e s m args below meth c Q D T ad ad2 ao b i cells slots) : W p l e room_1 s m args below meth c H locs cells slots Q (F0 m 478 ls []) := by
  have C1 := C0
  obtain ⟨hx, hb, hml, hown, hts, hK, hN, hXU, hXZ, hNc, hAD, hAD2, hap, hao, hao2, hge, hge2, hgo, hX, hbl, hlt, hL⟩ := C1
  obtain ⟨I, R, I2, R2, g, m9, nx, ct, ks, len, hP, hM, hO, hJ, hNm⟩ := lj_norm J
  have hc0 : cells + 0 ≤ room_1.cells := show cells + 0 ≤ 649774 by omega
  have hs0 : slots + 0 ≤ room_1.slots := show slots + 0 ≤ 7146782 by omega
  have hc1 : cells + 1 ≤ room_1.cells := hc
  have hs1 : slots + 6 ≤ room_1.slots := hs
  have hnx : nx < 6 := hJ.2.1.1
  have hct : ct ≤ 6 := hJ.2.1.2.1
  have hI1 : I 1 = nI nx := hJ.2.1.2.2.1
  have hI2 : I 2 = nI ct := hJ.2.1.2.2.2.1
  have hI21 : I2 1 = nI ct := hJ.2.2.1
  have hI4 : I 4 = nI m9 := hJ.1.1
  have hrl : RlW m9 (R2 0) := hJ.1.2.1
  have hm : m9 < 256 := hrl.1
  have hI5 : I 5 = R2 0 24 := hJ.1.2.2.1
  have hbd : BdA (R2 0) := hJ.1.2.2.2.2.2
  have hks : ks < 4 := hJ.2.2.2.1.1
  have hI0 : I 0 = nI ks := hJ.2.2.2.1.2.1
  have hTx : TxT (R2 4) len := hJ.2.2.2.2.1
  have hlen : len ≤ 60 := hTx.1
  have hI3 : I 3 = nI len := hJ.2.2.2.2.2.1
  have hI22 : I2 2 = nI len := hJ.2.2.2.2.2.2.1
  have n0 : R 0 = R2 0 := hNm.1
  have n1 : R 1 = qz (R2 0) := hNm.2.1
  have n18 : R 18 = R2 4 := hNm.2.2
  obtain ⟨v1, e1⟩ : ∃ v, xs (i + 1) = v := ⟨_, rfl⟩
  refine lv_aload_n hx hb dL_law_478 rfl (lv_at hl 1 rfl) ?_
  refine lw_arg (q := 1) C0 hS (lv_at hl 0 rfl) (lv_at hl 4 rfl) (by omega) (by decide) dL_law_479 dL_law_480 dL_law_482 dL_law_483 dL_law_484 e1 ?_
  refine lv_aload_n hx hb dL_law_485 rfl (lv_at hl 3 rfl) ?_
  rcases out_01 v1 33 126 with h1 | h1
  · obtain ⟨q, hq1, hq2, rfl⟩ := out_sgn h1
    by_cases h9 : len < 60
    · skip
      refine lw_hok C0 hS hM (vx_runSW (As := [.ref (ad 0), .int (nI q), .ref ao]) (rest := []) ⟨hx, hb, hml, hown, hts⟩ (h_append l D T ad I R _ ao g len q hAD h9 hI3 hq1 hq2 hao) (vx_cwSW 3 hts gL_law_L_append rfl rfl rfl (by decide +kernel) ⟨Nat.le_of_ble_eq_true rfl, Nat.le_of_ble_eq_true rfl⟩) ⟨HB.blind, HB.pre hP hO hK hN rfl⟩ rfl rfl hl.1 rfl (lv_room (Nat.le_of_ble_eq_true rfl)) dL_law_486 ⟨hc0, hs0⟩) (fun u1 H locs hP hO hM hS => ?_)
      refine lv_istore (lv' := [(5, .int 0), (0, .ref b), (1, .ref (ad 0)), (2, .ref (ad2 0)), (3, .ref ao), (4, .int (nI i))]) hx hb dL_law_489 hl (by decide) rfl (fun ls hl => ?_)
      refine lv_aload_n hx hb dL_law_491 rfl (lv_at hl 3 rfl) ?_
      refine lw_arg (q := 1) C0 hS (lv_at hl 1 rfl) (lv_at hl 5 rfl) (by omega) (by decide) dL_law_492 dL_law_493 dL_law_495 dL_law_496 dL_law_497 e1 ?_
      refine lw_mi C0 hS hP hO (va_runV (As := [.int (nI q)]) (rest := []) ⟨hx, hb, hml, hown, hts⟩ (c_X4_append l D T ad2 I2 R2 _ len q hAD2 h9 hI22 hq1 hq2) (cwV 1 hts gL_law_X4_append rfl rfl rfl (by decide +kernel) ⟨Nat.le_of_ble_eq_true rfl, Nat.le_of_ble_eq_true rfl⟩) ⟨MB.blind, va_recv hK hM (ci := 4) (q0 := 0) rfl mw_0, MB.pre hM hK rfl⟩ rfl rfl hl.1 rfl (lv_room (Nat.le_of_ble_eq_true rfl)) dL_law_498 ⟨hc0, hs0⟩) (fun u2 H locs hu hP hO hM hS => ?_)
      refine lv_istore (lv' := [(6, .int _), (5, .int 0), (0, .ref b), (1, .ref (ad 0)), (2, .ref (ad2 0)), (3, .ref ao), (4, .int (nI i))]) hx hb dL_law_501 hl (by decide) rfl (fun ls hl => ?_)
      exact lw_tail C0 hS hP hM hO hl rfl (fun _ => upL_0.trans (congrArg Int32.toInt64 (rfl))) (st_append hJ hNm h9 hq1 hq2) dL_law_503 dL_law_504 dL_law_507 dL_law_509 dL_law_514 dL_law_516 dL_law_519 dL_law_520 dL_law_521 dL_law_522 dL_law_524 dL_law_525 dL_law_526 dL_law_531 rfl (by omega) (by omega) hc0 hs0 kN
    · have h60 : len = 60 := by omega
      have g3 : I 3 = nI 60 := by rw [hI3, h60]
      have g2 : I2 2 = 60 := by rw [hI22, h60]; rfl
      refine lw_hth hS hP hM hO (vx_runSW (As := [.ref (ad 0), .int (nI q), .ref ao]) (rest := []) ⟨hx, hb, hml, hown, hts⟩ (h_append_t2 l D T ad I R ao hlt q g3 hq1 hq2) (vx_cwSW 3 hts gL_law_L_append rfl rfl rfl (by decide +kernel) ⟨Nat.le_of_ble_eq_true rfl, Nat.le_of_ble_eq_true rfl⟩) ⟨XN.blind, XN.pre hP hK hN hXU hXZ hNc hS rfl⟩ rfl rfl hl.1 rfl (lv_room (Nat.le_of_ble_eq_true rfl)) dL_law_486 ⟨hc1, hs1⟩) (fun H locs hP hO hM hS => ?_)
      refine lv_istore (lv' := [(5, .int 2), (0, .ref b), (1, .ref (ad 0)), (2, .ref (ad2 0)), (3, .ref ao), (4, .int (nI i))]) hx hb dL_law_489 hl (by decide) rfl (fun ls hl => ?_)
      refine lv_aload_n hx hb dL_law_491 rfl (lv_at hl 3 rfl) ?_
      refine lw_arg (q := 1) C0 hS (lv_at hl 1 rfl) (lv_at hl 5 rfl) (by omega) (by decide) dL_law_492 dL_law_493 dL_law_495 dL_law_496 dL_law_497 e1 ?_
      refine lw_mi C0 hS hP hO (va_runV (As := [.int (nI q)]) (rest := []) ⟨hx, hb, hml, hown, hts⟩ (c_X4_append_e2 l D T ad2 I2 R2 _ q hAD2 hq1 hq2 g2) (cwV 1 hts gL_law_X4_append rfl rfl rfl (by decide +kernel) ⟨Nat.le_of_ble_eq_true rfl, Nat.le_of_ble_eq_true rfl⟩) ⟨MB.blind, va_recv hK hM (ci := 4) (q0 := 0) rfl mw_0, MB.pre hM hK rfl⟩ rfl rfl hl.1 rfl (lv_room (Nat.le_of_ble_eq_true rfl)) dL_law_498 ⟨hc1, hs1⟩) (fun u2 H locs hu hP hO hM hS => ?_)
      refine lv_istore (lv' := [(6, .int _), (5, .int 2), (0, .ref b), (1, .ref (ad 0)), (2, .ref (ad2 0)), (3, .ref ao), (4, .int (nI i))]) hx hb dL_law_501 hl (by decide) rfl (fun ls hl => ?_)
      exact lw_tail C0 hS hP hM hO hl rfl (fun h => absurd h (by decide)) (st_same hJ rfl rfl (fun _ _ => rfl) (fun _ _ => rfl)) dL_law_503 dL_law_504 dL_law_507 dL_law_509 dL_law_514 dL_law_516 dL_law_519 dL_law_520 dL_law_521 dL_law_522 dL_law_524 dL_law_525 dL_law_526 dL_law_531 rfl (by omega) (by omega) hc1 hs1 kN
  · skip
    refine lw_hth hS hP hM hO (vx_runSW (As := [.ref (ad 0), .int v1, .ref ao]) (rest := []) ⟨hx, hb, hml, hown, hts⟩ (h_append_t1 l D T ad I R ao hlt v1 h1) (vx_cwSW 3 hts gL_law_L_append rfl rfl rfl (by decide +kernel) ⟨Nat.le_of_ble_eq_true rfl, Nat.le_of_ble_eq_true rfl⟩) ⟨XN.blind, XN.pre hP hK hN hXU hXZ hNc hS rfl⟩ rfl rfl hl.1 rfl (lv_room (Nat.le_of_ble_eq_true rfl)) dL_law_486 ⟨hc1, hs1⟩) (fun H locs hP hO hM hS => ?_)
    refine lv_istore (lv' := [(5, .int 1), (0, .ref b), (1, .ref (ad 0)), (2, .ref (ad2 0)), (3, .ref ao), (4, .int (nI i))]) hx hb dL_law_489 hl (by decide) rfl (fun ls hl => ?_)
    refine lv_aload_n hx hb dL_law_491 rfl (lv_at hl 3 rfl) ?_
    refine lw_arg (q := 1) C0 hS (lv_at hl 1 rfl) (lv_at hl 5 rfl) (by omega) (by decide) dL_law_492 dL_law_493 dL_law_495 dL_law_496 dL_law_497 e1 ?_
    refine lw_mi C0 hS hP hO (va_runV (As := [.int v1]) (rest := []) ⟨hx, hb, hml, hown, hts⟩ (c_X4_append_e1 l D T ad2 I2 R2 _ v1 hAD2 h1) (cwV 1 hts gL_law_X4_append rfl rfl rfl (by decide +kernel) ⟨Nat.le_of_ble_eq_true rfl, Nat.le_of_ble_eq_true rfl⟩) ⟨MB.blind, va_recv hK hM (ci := 4) (q0 := 0) rfl mw_0, MB.pre hM hK rfl⟩ rfl rfl hl.1 rfl (lv_room (Nat.le_of_ble_eq_true rfl)) dL_law_498 ⟨hc1, hs1⟩) (fun u2 H locs hu hP hO hM hS => ?_)
    refine lv_istore (lv' := [(6, .int _), (5, .int 1), (0, .ref b), (1, .ref (ad 0)), (2, .ref (ad2 0)), (3, .ref ao), (4, .int (nI i))]) hx hb dL_law_501 hl (by decide) rfl (fun ls hl => ?_)
    exact lw_tail C0 hS hP hM hO hl rfl (fun h => absurd h (by decide)) (st_same hJ rfl rfl (fun _ _ => rfl) (fun _ _ => rfl)) dL_law_503 dL_law_504 dL_law_507 dL_law_509 dL_law_514 dL_law_516 dL_law_519 dL_law_520 dL_law_521 dL_law_522 dL_law_524 dL_law_525 dL_law_526 dL_law_531 rfl (by omega) (by omega) hc1 hs1 kN
set_option maxHeartbeats 4000000 in
set_option maxRecDepth 100000 in
theorem lc_clearBuffer {p : Program} {l : Launch} {e : Env} {s : State} {m : MethodId} {args : Array Value} {below : List Frame} {meth : Method} {c : Code} {H : Heap} {locs : List Loc} {cells slots : Nat} {Q : State → Prop} {D : va_G} {T : Nat → ClassId} {ad ad2 : Nat → Nat} {ao : Nat} {b : Addr} {L : Nat} {xs : Nat → Int32} {ls : Array Slot} {i : Nat} (C0 : LwF p l s m c args D T ad ad2 ao b L xs) (J : LJ D T ad ad2 ao H) (hS : va_S (LwA s) s.heap H locs) (hl : lv_has ls 9 (lwLv b ad ad2 ao i)) (hi : i + 2 < L) (hc : cells + 1 ≤ 649774) (hs : slots + 6 ≤ 7146782) (kN : LwK p l e s m args below meth c Q D T ad ad2 ao b i cells slots) : W p l e room_1 s m args below meth c H locs cells slots Q (F0 m 534 ls []) := by
  have C1 := C0
  obtain ⟨hx, hb, hml, hown, hts, hK, hN, hXU, hXZ, hNc, hAD, hAD2, hap, hao, hao2, hge, hge2, hgo, hX, hbl, hlt, hL⟩ := C1
  obtain ⟨I, R, I2, R2, g, m9, nx, ct, ks, len, hP, hM, hO, hJ, hNm⟩ := lj_norm J
  have hc0 : cells + 0 ≤ room_1.cells := show cells + 0 ≤ 649774 by omega
  have hs0 : slots + 0 ≤ room_1.slots := show slots + 0 ≤ 7146782 by omega
  have hc1 : cells + 1 ≤ room_1.cells := hc
  have hs1 : slots + 6 ≤ room_1.slots := hs
  have hnx : nx < 6 := hJ.2.1.1
  have hct : ct ≤ 6 := hJ.2.1.2.1
  have hI1 : I 1 = nI nx := hJ.2.1.2.2.1
  have hI2 : I 2 = nI ct := hJ.2.1.2.2.2.1
  have hI21 : I2 1 = nI ct := hJ.2.2.1
  have hI4 : I 4 = nI m9 := hJ.1.1
  have hrl : RlW m9 (R2 0) := hJ.1.2.1
  have hm : m9 < 256 := hrl.1
  have hI5 : I 5 = R2 0 24 := hJ.1.2.2.1
  have hbd : BdA (R2 0) := hJ.1.2.2.2.2.2
  have hks : ks < 4 := hJ.2.2.2.1.1
  have hI0 : I 0 = nI ks := hJ.2.2.2.1.2.1
  have hTx : TxT (R2 4) len := hJ.2.2.2.2.1
  have hlen : len ≤ 60 := hTx.1
  have hI3 : I 3 = nI len := hJ.2.2.2.2.2.1
  have hI22 : I2 2 = nI len := hJ.2.2.2.2.2.2.1
  have n0 : R 0 = R2 0 := hNm.1
  have n1 : R 1 = qz (R2 0) := hNm.2.1
  have n18 : R 18 = R2 4 := hNm.2.2
  refine lv_aload_n hx hb dL_law_534 rfl (lv_at hl 1 rfl) ?_
  refine lw_ci C0 hS hM hO (va_runV (As := []) (rest := []) ⟨hx, hb, hml, hown, hts⟩ (c_X3_clearBuffer l D T ad I R _ hAD) (cwV 0 hts gL_law_X3_clearBuffer rfl rfl rfl (by decide +kernel) ⟨Nat.le_of_ble_eq_true rfl, Nat.le_of_ble_eq_true rfl⟩) ⟨CB.blind, va_recv hK hP (ci := 3) (q0 := 0) rfl cw_0, CB.pre hP hK hN rfl⟩ rfl rfl hl.1 rfl (lv_room (Nat.le_of_ble_eq_true rfl)) dL_law_535 ⟨hc0, hs0⟩) (fun u1 H locs hv hP hO hM hS => ?_)
  refine lv_aload_n hx hb dL_law_538 rfl (lv_at hl 2 rfl) ?_
  refine lw_mi C0 hS hP hO (va_runV (As := []) (rest := [_]) ⟨hx, hb, hml, hown, hts⟩ (c_X4_clearBuffer l D T ad2 I2 R2 _ hAD2) (cwV 0 hts gL_law_X4_clearBuffer rfl rfl rfl (by decide +kernel) ⟨Nat.le_of_ble_eq_true rfl, Nat.le_of_ble_eq_true rfl⟩) ⟨MB.blind, va_recv hK hM (ci := 4) (q0 := 0) rfl mw_0, MB.pre hM hK rfl⟩ rfl rfl hl.1 rfl (lv_room (Nat.le_of_ble_eq_true rfl)) dL_law_539 ⟨hc0, hs0⟩) (fun u2 H locs hu hP hO hM hS => ?_)
  have hE : I 3 = I2 2 := hI3.trans hI22.symm
  refine lv_icmp_eq (tgt := 1237) hx hb dL_law_542 (by decide) (fun _ => ?_) (fun h => absurd hE h)
  exact kN H locs ls _ _ ⟨_, _, _, _, g, _, _, _, _, _, hP, hM, hO, (st_clear hJ)⟩ hS hl (by omega) (by omega)
set_option maxHeartbeats 4000000 in
set_option maxRecDepth 100000 in
theorem lc_firstError {p : Program} {l : Launch} {e : Env} {s : State} {m : MethodId} {args : Array Value} {below : List Frame} {meth : Method} {c : Code} {H : Heap} {locs : List Loc} {cells slots : Nat} {Q : State → Prop} {D : va_G} {T : Nat → ClassId} {ad ad2 : Nat → Nat} {ao : Nat} {b : Addr} {L : Nat} {xs : Nat → Int32} {ls : Array Slot} {i : Nat} (C0 : LwF p l s m c args D T ad ad2 ao b L xs) (J : LJ D T ad ad2 ao H) (hS : va_S (LwA s) s.heap H locs) (hl : lv_has ls 9 (lwLv b ad ad2 ao i)) (hi : i + 2 < L) (hc : cells + 1 ≤ 649774) (hs : slots + 6 ≤ 7146782) (kN : LwK p l e s m args below meth c Q D T ad ad2 ao b i cells slots) : W p l e room_1 s m args below meth c H locs cells slots Q (F0 m 547 ls []) := by
  have C1 := C0
  obtain ⟨hx, hb, hml, hown, hts, hK, hN, hXU, hXZ, hNc, hAD, hAD2, hap, hao, hao2, hge, hge2, hgo, hX, hbl, hlt, hL⟩ := C1
  obtain ⟨I, R, I2, R2, g, m9, nx, ct, ks, len, hP, hM, hO, hJ, hNm⟩ := lj_norm J
  have hc0 : cells + 0 ≤ room_1.cells := show cells + 0 ≤ 649774 by omega
  have hs0 : slots + 0 ≤ room_1.slots := show slots + 0 ≤ 7146782 by omega
  have hc1 : cells + 1 ≤ room_1.cells := hc
  have hs1 : slots + 6 ≤ room_1.slots := hs
  have hnx : nx < 6 := hJ.2.1.1
  have hct : ct ≤ 6 := hJ.2.1.2.1
  have hI1 : I 1 = nI nx := hJ.2.1.2.2.1
  have hI2 : I 2 = nI ct := hJ.2.1.2.2.2.1
  have hI21 : I2 1 = nI ct := hJ.2.2.1
  have hI4 : I 4 = nI m9 := hJ.1.1
  have hrl : RlW m9 (R2 0) := hJ.1.2.1
  have hm : m9 < 256 := hrl.1
  have hI5 : I 5 = R2 0 24 := hJ.1.2.2.1
  have hbd : BdA (R2 0) := hJ.1.2.2.2.2.2
  have hks : ks < 4 := hJ.2.2.2.1.1
  have hI0 : I 0 = nI ks := hJ.2.2.2.1.2.1
  have hTx : TxT (R2 4) len := hJ.2.2.2.2.1
  have hlen : len ≤ 60 := hTx.1
  have hI3 : I 3 = nI len := hJ.2.2.2.2.2.1
  have hI22 : I2 2 = nI len := hJ.2.2.2.2.2.2.1
  have n0 : R 0 = R2 0 := hNm.1
  have n1 : R 1 = qz (R2 0) := hNm.2.1
  have n18 : R 18 = R2 4 := hNm.2.2
  refine lv_aload_n hx hb dL_law_547 rfl (lv_at hl 1 rfl) ?_
  refine lw_ri hS hP hM hO (va_runV (As := []) (rest := []) ⟨hx, hb, hml, hown, hts⟩ (c_X3_firstError l D T ad I R len hlen hI3) (cwV 0 hts gL_law_X3_firstError rfl rfl rfl (by decide +kernel) ⟨Nat.le_of_ble_eq_true rfl, Nat.le_of_ble_eq_true rfl⟩) ⟨CR.blind, va_recv hK hP (ci := 3) (q0 := 0) rfl cw_0, CR.pre hP hK hN rfl⟩ rfl rfl hl.1 rfl (lv_room (Nat.le_of_ble_eq_true rfl)) dL_law_548 ⟨hc0, hs0⟩) (fun H locs hP hO hM hS => ?_)
  refine lv_aload_n hx hb dL_law_551 rfl (lv_at hl 2 rfl) ?_
  refine lw_mi C0 hS hP hO (va_runV (As := []) (rest := [_]) ⟨hx, hb, hml, hown, hts⟩ (c_X4_firstError l D T ad2 I2 R2 _ len hAD2 hlen hI22) (cwV 0 hts gL_law_X4_firstError rfl rfl rfl (by decide +kernel) ⟨Nat.le_of_ble_eq_true rfl, Nat.le_of_ble_eq_true rfl⟩) ⟨MB.blind, va_recv hK hM (ci := 4) (q0 := 0) rfl mw_0, MB.pre hM hK rfl⟩ rfl rfl hl.1 rfl (lv_room (Nat.le_of_ble_eq_true rfl)) dL_law_552 ⟨hc0, hs0⟩) (fun u2 H locs hu hP hO hM hS => ?_)
  have hE : nI (epG (R 18) len 0) = if ferS (R2 4) len 61 0 < 0 then nI len else ferS (R2 4) len 61 0 := by rw [n18]; exact tx_err hTx
  refine lv_icmp_eq (tgt := 1237) hx hb dL_law_555 (by decide) (fun _ => ?_) (fun h => absurd hE h)
  exact kN H locs ls _ _ ⟨_, _, _, _, g, _, _, _, _, _, hP, hM, hO, (st_same hJ rfl rfl (fun _ _ => rfl) (fun _ _ => rfl))⟩ hS hl (by omega) (by omega)
set_option maxHeartbeats 4000000 in
set_option maxRecDepth 100000 in
theorem lc_load {p : Program} {l : Launch} {e : Env} {s : State} {m : MethodId} {args : Array Value} {below : List Frame} {meth : Method} {c : Code} {H : Heap} {locs : List Loc} {cells slots : Nat} {Q : State → Prop} {D : va_G} {T : Nat → ClassId} {ad ad2 : Nat → Nat} {ao : Nat} {b : Addr} {L : Nat} {xs : Nat → Int32} {ls : Array Slot} {i : Nat} (C0 : LwF p l s m c args D T ad ad2 ao b L xs) (J : LJ D T ad ad2 ao H) (hS : va_S (LwA s) s.heap H locs) (hl : lv_has ls 9 (lwLv b ad ad2 ao i)) (hi : i + 2 < L) (hc : cells + 1 ≤ 649774) (hs : slots + 6 ≤ 7146782) (kN : LwK p l e s m args below meth c Q D T ad ad2 ao b i cells slots) : W p l e room_1 s m args below meth c H locs cells slots Q (F0 m 560 ls []) := by
  have C1 := C0
  obtain ⟨hx, hb, hml, hown, hts, hK, hN, hXU, hXZ, hNc, hAD, hAD2, hap, hao, hao2, hge, hge2, hgo, hX, hbl, hlt, hL⟩ := C1
  obtain ⟨I, R, I2, R2, g, m9, nx, ct, ks, len, hP, hM, hO, hJ, hNm⟩ := lj_norm J
  have hc0 : cells + 0 ≤ room_1.cells := show cells + 0 ≤ 649774 by omega
  have hs0 : slots + 0 ≤ room_1.slots := show slots + 0 ≤ 7146782 by omega
  have hc1 : cells + 1 ≤ room_1.cells := hc
  have hs1 : slots + 6 ≤ room_1.slots := hs
  have hnx : nx < 6 := hJ.2.1.1
  have hct : ct ≤ 6 := hJ.2.1.2.1
  have hI1 : I 1 = nI nx := hJ.2.1.2.2.1
  have hI2 : I 2 = nI ct := hJ.2.1.2.2.2.1
  have hI21 : I2 1 = nI ct := hJ.2.2.1
  have hI4 : I 4 = nI m9 := hJ.1.1
  have hrl : RlW m9 (R2 0) := hJ.1.2.1
  have hm : m9 < 256 := hrl.1
  have hI5 : I 5 = R2 0 24 := hJ.1.2.2.1
  have hbd : BdA (R2 0) := hJ.1.2.2.2.2.2
  have hks : ks < 4 := hJ.2.2.2.1.1
  have hI0 : I 0 = nI ks := hJ.2.2.2.1.2.1
  have hTx : TxT (R2 4) len := hJ.2.2.2.2.1
  have hlen : len ≤ 60 := hTx.1
  have hI3 : I 3 = nI len := hJ.2.2.2.2.2.1
  have hI22 : I2 2 = nI len := hJ.2.2.2.2.2.2.1
  have n0 : R 0 = R2 0 := hNm.1
  have n1 : R 1 = qz (R2 0) := hNm.2.1
  have n18 : R 18 = R2 4 := hNm.2.2
  refine lv_aload_n hx hb dL_law_560 rfl (lv_at hl 1 rfl) ?_
  refine lv_aload_n hx hb dL_law_561 rfl (lv_at hl 3 rfl) ?_
  rcases tx_ok hTx with ⟨h1, h2⟩ | ⟨h1, h2⟩
  · rw [← n18] at h1
    refine lw_hok C0 hS hM (vx_runSW (As := [.ref (ad 0), .ref ao]) (rest := []) ⟨hx, hb, hml, hown, hts⟩ (h_load l D T ad I R _ ao g nx ct len hAD hnx hct hI1 hI2 hlen hI3 h1 hao) (vx_cwSW 2 hts gL_law_L_load rfl rfl rfl (by decide +kernel) ⟨Nat.le_of_ble_eq_true rfl, Nat.le_of_ble_eq_true rfl⟩) ⟨HB.blind, HB.pre hP hO hK hN rfl⟩ rfl rfl hl.1 rfl (lv_room (Nat.le_of_ble_eq_true rfl)) dL_law_562 ⟨hc0, hs0⟩) (fun u1 H locs hP hO hM hS => ?_)
    refine lv_istore (lv' := [(5, .int 0), (0, .ref b), (1, .ref (ad 0)), (2, .ref (ad2 0)), (3, .ref ao), (4, .int (nI i))]) hx hb dL_law_565 hl (by decide) rfl (fun ls hl => ?_)
    refine lv_aload_n hx hb dL_law_567 rfl (lv_at hl 3 rfl) ?_
    refine lw_mi C0 hS hP hO (va_runV (As := []) (rest := []) ⟨hx, hb, hml, hown, hts⟩ (c_X4_load l D T ad2 I2 R2 _ ct len hAD2 hct hI21 hlen hI22 h2) (cwV 0 hts gL_law_X4_load rfl rfl rfl (by decide +kernel) ⟨Nat.le_of_ble_eq_true rfl, Nat.le_of_ble_eq_true rfl⟩) ⟨MB.blind, va_recv hK hM (ci := 4) (q0 := 0) rfl mw_0, MB.pre hM hK rfl⟩ rfl rfl hl.1 rfl (lv_room (Nat.le_of_ble_eq_true rfl)) dL_law_568 ⟨hc0, hs0⟩) (fun u2 H locs hu hP hO hM hS => ?_)
    refine lv_istore (lv' := [(6, .int _), (5, .int 0), (0, .ref b), (1, .ref (ad 0)), (2, .ref (ad2 0)), (3, .ref ao), (4, .int (nI i))]) hx hb dL_law_571 hl (by decide) rfl (fun ls hl => ?_)
    exact lw_tail C0 hS hP hM hO hl rfl (fun _ => upL_0.trans (congrArg Int32.toInt64 (by rw [n18]; exact cn_c8 (tx_ld hTx h2 (R2 0)).1.1 8 (Nat.le_refl 8)))) (st_load hJ hNm hu h2) dL_law_573 dL_law_574 dL_law_577 dL_law_579 dL_law_584 dL_law_586 dL_law_589 dL_law_590 dL_law_591 dL_law_592 dL_law_594 dL_law_595 dL_law_596 dL_law_601 rfl (by omega) (by omega) hc0 hs0 kN
  · rw [← n18] at h1
    refine lw_hth hS hP hM hO (vx_runSW (As := [.ref (ad 0), .ref ao]) (rest := []) ⟨hx, hb, hml, hown, hts⟩ (h_load_t1 l D T ad I R ao hlt len hlen hI3 h1) (vx_cwSW 2 hts gL_law_L_load rfl rfl rfl (by decide +kernel) ⟨Nat.le_of_ble_eq_true rfl, Nat.le_of_ble_eq_true rfl⟩) ⟨XN.blind, XN.pre hP hK hN hXU hXZ hNc hS rfl⟩ rfl rfl hl.1 rfl (lv_room (Nat.le_of_ble_eq_true rfl)) dL_law_562 ⟨hc1, hs1⟩) (fun H locs hP hO hM hS => ?_)
    refine lv_istore (lv' := [(5, .int 1), (0, .ref b), (1, .ref (ad 0)), (2, .ref (ad2 0)), (3, .ref ao), (4, .int (nI i))]) hx hb dL_law_565 hl (by decide) rfl (fun ls hl => ?_)
    refine lv_aload_n hx hb dL_law_567 rfl (lv_at hl 3 rfl) ?_
    refine lw_mi C0 hS hP hO (va_runV (As := []) (rest := []) ⟨hx, hb, hml, hown, hts⟩ (c_X4_load_e1 l D T ad2 I2 R2 _ len hAD2 hlen hI22 h2) (cwV 0 hts gL_law_X4_load rfl rfl rfl (by decide +kernel) ⟨Nat.le_of_ble_eq_true rfl, Nat.le_of_ble_eq_true rfl⟩) ⟨MB.blind, va_recv hK hM (ci := 4) (q0 := 0) rfl mw_0, MB.pre hM hK rfl⟩ rfl rfl hl.1 rfl (lv_room (Nat.le_of_ble_eq_true rfl)) dL_law_568 ⟨hc1, hs1⟩) (fun u2 H locs hu hP hO hM hS => ?_)
    refine lv_istore (lv' := [(6, .int _), (5, .int 1), (0, .ref b), (1, .ref (ad 0)), (2, .ref (ad2 0)), (3, .ref ao), (4, .int (nI i))]) hx hb dL_law_571 hl (by decide) rfl (fun ls hl => ?_)
    exact lw_tail C0 hS hP hM hO hl rfl (fun h => absurd h (by decide)) (st_same hJ rfl rfl (fun _ _ => rfl) (fun _ _ => rfl)) dL_law_573 dL_law_574 dL_law_577 dL_law_579 dL_law_584 dL_law_586 dL_law_589 dL_law_590 dL_law_591 dL_law_592 dL_law_594 dL_law_595 dL_law_596 dL_law_601 rfl (by omega) (by omega) hc1 hs1 kN
set_option maxHeartbeats 4000000 in
set_option maxRecDepth 100000 in
theorem lc_keep {p : Program} {l : Launch} {e : Env} {s : State} {m : MethodId} {args : Array Value} {below : List Frame} {meth : Method} {c : Code} {H : Heap} {locs : List Loc} {cells slots : Nat} {Q : State → Prop} {D : va_G} {T : Nat → ClassId} {ad ad2 : Nat → Nat} {ao : Nat} {b : Addr} {L : Nat} {xs : Nat → Int32} {ls : Array Slot} {i : Nat} (C0 : LwF p l s m c args D T ad ad2 ao b L xs) (J : LJ D T ad ad2 ao H) (hS : va_S (LwA s) s.heap H locs) (hl : lv_has ls 9 (lwLv b ad ad2 ao i)) (hi : i + 2 < L) (hc : cells + 1 ≤ 649774) (hs : slots + 6 ≤ 7146782) (kN : LwK p l e s m args below meth c Q D T ad ad2 ao b i cells slots) : W p l e room_1 s m args below meth c H locs cells slots Q (F0 m 604 ls []) := by
  have C1 := C0
  obtain ⟨hx, hb, hml, hown, hts, hK, hN, hXU, hXZ, hNc, hAD, hAD2, hap, hao, hao2, hge, hge2, hgo, hX, hbl, hlt, hL⟩ := C1
  obtain ⟨I, R, I2, R2, g, m9, nx, ct, ks, len, hP, hM, hO, hJ, hNm⟩ := lj_norm J
  have hc0 : cells + 0 ≤ room_1.cells := show cells + 0 ≤ 649774 by omega
  have hs0 : slots + 0 ≤ room_1.slots := show slots + 0 ≤ 7146782 by omega
  have hc1 : cells + 1 ≤ room_1.cells := hc
  have hs1 : slots + 6 ≤ room_1.slots := hs
  have hnx : nx < 6 := hJ.2.1.1
  have hct : ct ≤ 6 := hJ.2.1.2.1
  have hI1 : I 1 = nI nx := hJ.2.1.2.2.1
  have hI2 : I 2 = nI ct := hJ.2.1.2.2.2.1
  have hI21 : I2 1 = nI ct := hJ.2.2.1
  have hI4 : I 4 = nI m9 := hJ.1.1
  have hrl : RlW m9 (R2 0) := hJ.1.2.1
  have hm : m9 < 256 := hrl.1
  have hI5 : I 5 = R2 0 24 := hJ.1.2.2.1
  have hbd : BdA (R2 0) := hJ.1.2.2.2.2.2
  have hks : ks < 4 := hJ.2.2.2.1.1
  have hI0 : I 0 = nI ks := hJ.2.2.2.1.2.1
  have hTx : TxT (R2 4) len := hJ.2.2.2.2.1
  have hlen : len ≤ 60 := hTx.1
  have hI3 : I 3 = nI len := hJ.2.2.2.2.2.1
  have hI22 : I2 2 = nI len := hJ.2.2.2.2.2.2.1
  have n0 : R 0 = R2 0 := hNm.1
  have n1 : R 1 = qz (R2 0) := hNm.2.1
  have n18 : R 18 = R2 4 := hNm.2.2
  obtain ⟨v1, e1⟩ : ∃ v, xs (i + 1) = v := ⟨_, rfl⟩
  refine lv_aload_n hx hb dL_law_604 rfl (lv_at hl 1 rfl) ?_
  refine lw_arg (q := 1) C0 hS (lv_at hl 0 rfl) (lv_at hl 4 rfl) (by omega) (by decide) dL_law_605 dL_law_606 dL_law_608 dL_law_609 dL_law_610 e1 ?_
  refine lv_aload_n hx hb dL_law_611 rfl (lv_at hl 3 rfl) ?_
  rcases out_01 v1 0 1 with h1 | h1
  · obtain ⟨k, hk, rfl⟩ := out_nat (n := 1) (by decide) h1
    refine lw_hok C0 hS hM (vx_runSW (As := [.ref (ad 0), .int (nI k), .ref ao]) (rest := []) ⟨hx, hb, hml, hown, hts⟩ (h_keep l D T ad I R _ ao g ks k hAD hks hI0 hk hao) (vx_cwSW 3 hts gL_law_L_keep rfl rfl rfl (by decide +kernel) ⟨Nat.le_of_ble_eq_true rfl, Nat.le_of_ble_eq_true rfl⟩) ⟨HB.blind, HB.pre hP hO hK hN rfl⟩ rfl rfl hl.1 rfl (lv_room (Nat.le_of_ble_eq_true rfl)) dL_law_612 ⟨hc0, hs0⟩) (fun u1 H locs hP hO hM hS => ?_)
    refine lv_istore (lv' := [(5, .int 0), (0, .ref b), (1, .ref (ad 0)), (2, .ref (ad2 0)), (3, .ref ao), (4, .int (nI i))]) hx hb dL_law_615 hl (by decide) rfl (fun ls hl => ?_)
    refine lv_aload_n hx hb dL_law_617 rfl (lv_at hl 3 rfl) ?_
    refine lw_arg (q := 1) C0 hS (lv_at hl 1 rfl) (lv_at hl 5 rfl) (by omega) (by decide) dL_law_618 dL_law_619 dL_law_621 dL_law_622 dL_law_623 e1 ?_
    refine lw_mi C0 hS hP hO (va_runV (As := [.int (nI k)]) (rest := []) ⟨hx, hb, hml, hown, hts⟩ (c_X4_keep l D T ad2 I2 R2 _ k hAD2 hk) (cwV 1 hts gL_law_X4_keep rfl rfl rfl (by decide +kernel) ⟨Nat.le_of_ble_eq_true rfl, Nat.le_of_ble_eq_true rfl⟩) ⟨MB.blind, va_recv hK hM (ci := 4) (q0 := 0) rfl mw_0, MB.pre hM hK rfl⟩ rfl rfl hl.1 rfl (lv_room (Nat.le_of_ble_eq_true rfl)) dL_law_624 ⟨hc0, hs0⟩) (fun u2 H locs hu hP hO hM hS => ?_)
    refine lv_istore (lv' := [(6, .int _), (5, .int 0), (0, .ref b), (1, .ref (ad 0)), (2, .ref (ad2 0)), (3, .ref ao), (4, .int (nI i))]) hx hb dL_law_627 hl (by decide) rfl (fun ls hl => ?_)
    exact lw_tail C0 hS hP hM hO hl rfl (fun _ => upL_0.trans (congrArg Int32.toInt64 (by rw [n0]))) (st_keep hJ hk hu.1 hu.2) dL_law_629 dL_law_630 dL_law_633 dL_law_635 dL_law_640 dL_law_642 dL_law_645 dL_law_646 dL_law_647 dL_law_648 dL_law_650 dL_law_651 dL_law_652 dL_law_657 rfl (by omega) (by omega) hc0 hs0 kN
  · skip
    refine lw_hth hS hP hM hO (vx_runSW (As := [.ref (ad 0), .int v1, .ref ao]) (rest := []) ⟨hx, hb, hml, hown, hts⟩ (h_keep_t1 l D T ad I R ao hlt v1 h1) (vx_cwSW 3 hts gL_law_L_keep rfl rfl rfl (by decide +kernel) ⟨Nat.le_of_ble_eq_true rfl, Nat.le_of_ble_eq_true rfl⟩) ⟨XN.blind, XN.pre hP hK hN hXU hXZ hNc hS rfl⟩ rfl rfl hl.1 rfl (lv_room (Nat.le_of_ble_eq_true rfl)) dL_law_612 ⟨hc1, hs1⟩) (fun H locs hP hO hM hS => ?_)
    refine lv_istore (lv' := [(5, .int 1), (0, .ref b), (1, .ref (ad 0)), (2, .ref (ad2 0)), (3, .ref ao), (4, .int (nI i))]) hx hb dL_law_615 hl (by decide) rfl (fun ls hl => ?_)
    refine lv_aload_n hx hb dL_law_617 rfl (lv_at hl 3 rfl) ?_
    refine lw_arg (q := 1) C0 hS (lv_at hl 1 rfl) (lv_at hl 5 rfl) (by omega) (by decide) dL_law_618 dL_law_619 dL_law_621 dL_law_622 dL_law_623 e1 ?_
    refine lw_mi C0 hS hP hO (va_runV (As := [.int v1]) (rest := []) ⟨hx, hb, hml, hown, hts⟩ (c_X4_keep_e1 l D T ad2 I2 R2 _ v1 hAD2 h1) (cwV 1 hts gL_law_X4_keep rfl rfl rfl (by decide +kernel) ⟨Nat.le_of_ble_eq_true rfl, Nat.le_of_ble_eq_true rfl⟩) ⟨MB.blind, va_recv hK hM (ci := 4) (q0 := 0) rfl mw_0, MB.pre hM hK rfl⟩ rfl rfl hl.1 rfl (lv_room (Nat.le_of_ble_eq_true rfl)) dL_law_624 ⟨hc1, hs1⟩) (fun u2 H locs hu hP hO hM hS => ?_)
    refine lv_istore (lv' := [(6, .int _), (5, .int 1), (0, .ref b), (1, .ref (ad 0)), (2, .ref (ad2 0)), (3, .ref ao), (4, .int (nI i))]) hx hb dL_law_627 hl (by decide) rfl (fun ls hl => ?_)
    exact lw_tail C0 hS hP hM hO hl rfl (fun h => absurd h (by decide)) (st_same hJ rfl rfl (fun _ _ => rfl) (fun _ _ => rfl)) dL_law_629 dL_law_630 dL_law_633 dL_law_635 dL_law_640 dL_law_642 dL_law_645 dL_law_646 dL_law_647 dL_law_648 dL_law_650 dL_law_651 dL_law_652 dL_law_657 rfl (by omega) (by omega) hc1 hs1 kN
set_option maxHeartbeats 4000000 in
set_option maxRecDepth 100000 in
theorem lc_goBack {p : Program} {l : Launch} {e : Env} {s : State} {m : MethodId} {args : Array Value} {below : List Frame} {meth : Method} {c : Code} {H : Heap} {locs : List Loc} {cells slots : Nat} {Q : State → Prop} {D : va_G} {T : Nat → ClassId} {ad ad2 : Nat → Nat} {ao : Nat} {b : Addr} {L : Nat} {xs : Nat → Int32} {ls : Array Slot} {i : Nat} (C0 : LwF p l s m c args D T ad ad2 ao b L xs) (J : LJ D T ad ad2 ao H) (hS : va_S (LwA s) s.heap H locs) (hl : lv_has ls 9 (lwLv b ad ad2 ao i)) (hi : i + 2 < L) (hc : cells + 1 ≤ 649774) (hs : slots + 6 ≤ 7146782) (kN : LwK p l e s m args below meth c Q D T ad ad2 ao b i cells slots) : W p l e room_1 s m args below meth c H locs cells slots Q (F0 m 660 ls []) := by
  have C1 := C0
  obtain ⟨hx, hb, hml, hown, hts, hK, hN, hXU, hXZ, hNc, hAD, hAD2, hap, hao, hao2, hge, hge2, hgo, hX, hbl, hlt, hL⟩ := C1
  obtain ⟨I, R, I2, R2, g, m9, nx, ct, ks, len, hP, hM, hO, hJ, hNm⟩ := lj_norm J
  have hc0 : cells + 0 ≤ room_1.cells := show cells + 0 ≤ 649774 by omega
  have hs0 : slots + 0 ≤ room_1.slots := show slots + 0 ≤ 7146782 by omega
  have hc1 : cells + 1 ≤ room_1.cells := hc
  have hs1 : slots + 6 ≤ room_1.slots := hs
  have hnx : nx < 6 := hJ.2.1.1
  have hct : ct ≤ 6 := hJ.2.1.2.1
  have hI1 : I 1 = nI nx := hJ.2.1.2.2.1
  have hI2 : I 2 = nI ct := hJ.2.1.2.2.2.1
  have hI21 : I2 1 = nI ct := hJ.2.2.1
  have hI4 : I 4 = nI m9 := hJ.1.1
  have hrl : RlW m9 (R2 0) := hJ.1.2.1
  have hm : m9 < 256 := hrl.1
  have hI5 : I 5 = R2 0 24 := hJ.1.2.2.1
  have hbd : BdA (R2 0) := hJ.1.2.2.2.2.2
  have hks : ks < 4 := hJ.2.2.2.1.1
  have hI0 : I 0 = nI ks := hJ.2.2.2.1.2.1
  have hTx : TxT (R2 4) len := hJ.2.2.2.2.1
  have hlen : len ≤ 60 := hTx.1
  have hI3 : I 3 = nI len := hJ.2.2.2.2.2.1
  have hI22 : I2 2 = nI len := hJ.2.2.2.2.2.2.1
  have n0 : R 0 = R2 0 := hNm.1
  have n1 : R 1 = qz (R2 0) := hNm.2.1
  have n18 : R 18 = R2 4 := hNm.2.2
  obtain ⟨v1, e1⟩ : ∃ v, xs (i + 1) = v := ⟨_, rfl⟩
  refine lv_aload_n hx hb dL_law_660 rfl (lv_at hl 1 rfl) ?_
  refine lw_arg (q := 1) C0 hS (lv_at hl 0 rfl) (lv_at hl 4 rfl) (by omega) (by decide) dL_law_661 dL_law_662 dL_law_664 dL_law_665 dL_law_666 e1 ?_
  refine lv_aload_n hx hb dL_law_667 rfl (lv_at hl 3 rfl) ?_
  rcases out_01 v1 0 1 with h1 | h1
  · obtain ⟨k, hk, rfl⟩ := out_nat (n := 1) (by decide) h1
    have hkp : R2 3 k = lbI ks k := (hJ.2.2.2.1.2.2 k hk).1
    rcases lb_01 ks k with h2 | h2
    · rw [h2] at hkp
      refine lw_hth hS hP hM hO (vx_runSW (As := [.ref (ad 0), .int (nI k), .ref ao]) (rest := []) ⟨hx, hb, hml, hown, hts⟩ (h_goBack_t2 l D T ad I R ao hlt ks k hks hI0 hk h2) (vx_cwSW 3 hts gL_law_L_goBack rfl rfl rfl (by decide +kernel) ⟨Nat.le_of_ble_eq_true rfl, Nat.le_of_ble_eq_true rfl⟩) ⟨XN.blind, XN.pre hP hK hN hXU hXZ hNc hS rfl⟩ rfl rfl hl.1 rfl (lv_room (Nat.le_of_ble_eq_true rfl)) dL_law_668 ⟨hc1, hs1⟩) (fun H locs hP hO hM hS => ?_)
      refine lv_istore (lv' := [(5, .int 2), (0, .ref b), (1, .ref (ad 0)), (2, .ref (ad2 0)), (3, .ref ao), (4, .int (nI i))]) hx hb dL_law_671 hl (by decide) rfl (fun ls hl => ?_)
      refine lv_aload_n hx hb dL_law_673 rfl (lv_at hl 3 rfl) ?_
      refine lw_arg (q := 1) C0 hS (lv_at hl 1 rfl) (lv_at hl 5 rfl) (by omega) (by decide) dL_law_674 dL_law_675 dL_law_677 dL_law_678 dL_law_679 e1 ?_
      refine lw_mi C0 hS hP hO (va_runV (As := [.int (nI k)]) (rest := []) ⟨hx, hb, hml, hown, hts⟩ (c_X4_goBack_e2 l D T ad2 I2 R2 _ k hAD2 hk hkp) (cwV 1 hts gL_law_X4_goBack rfl rfl rfl (by decide +kernel) ⟨Nat.le_of_ble_eq_true rfl, Nat.le_of_ble_eq_true rfl⟩) ⟨MB.blind, va_recv hK hM (ci := 4) (q0 := 0) rfl mw_0, MB.pre hM hK rfl⟩ rfl rfl hl.1 rfl (lv_room (Nat.le_of_ble_eq_true rfl)) dL_law_680 ⟨hc1, hs1⟩) (fun u2 H locs hu hP hO hM hS => ?_)
      refine lv_istore (lv' := [(6, .int _), (5, .int 2), (0, .ref b), (1, .ref (ad 0)), (2, .ref (ad2 0)), (3, .ref ao), (4, .int (nI i))]) hx hb dL_law_683 hl (by decide) rfl (fun ls hl => ?_)
      exact lw_tail C0 hS hP hM hO hl rfl (fun h => absurd h (by decide)) (st_same hJ rfl rfl (fun _ _ => rfl) (fun _ _ => rfl)) dL_law_685 dL_law_686 dL_law_689 dL_law_691 dL_law_696 dL_law_698 dL_law_701 dL_law_702 dL_law_703 dL_law_704 dL_law_706 dL_law_707 dL_law_708 dL_law_713 rfl (by omega) (by omega) hc1 hs1 kN
    · rw [h2] at hkp
      refine lw_hok C0 hS hM (vx_runSW (As := [.ref (ad 0), .int (nI k), .ref ao]) (rest := []) ⟨hx, hb, hml, hown, hts⟩ (h_goBack l D T ad I R _ ao g nx ct ks k hAD hnx hct hI1 hI2 hks hI0 hk h2 hao) (vx_cwSW 3 hts gL_law_L_goBack rfl rfl rfl (by decide +kernel) ⟨Nat.le_of_ble_eq_true rfl, Nat.le_of_ble_eq_true rfl⟩) ⟨HB.blind, HB.pre hP hO hK hN rfl⟩ rfl rfl hl.1 rfl (lv_room (Nat.le_of_ble_eq_true rfl)) dL_law_668 ⟨hc0, hs0⟩) (fun u1 H locs hP hO hM hS => ?_)
      refine lv_istore (lv' := [(5, .int 0), (0, .ref b), (1, .ref (ad 0)), (2, .ref (ad2 0)), (3, .ref ao), (4, .int (nI i))]) hx hb dL_law_671 hl (by decide) rfl (fun ls hl => ?_)
      refine lv_aload_n hx hb dL_law_673 rfl (lv_at hl 3 rfl) ?_
      refine lw_arg (q := 1) C0 hS (lv_at hl 1 rfl) (lv_at hl 5 rfl) (by omega) (by decide) dL_law_674 dL_law_675 dL_law_677 dL_law_678 dL_law_679 e1 ?_
      refine lw_mi C0 hS hP hO (va_runV (As := [.int (nI k)]) (rest := []) ⟨hx, hb, hml, hown, hts⟩ (c_X4_goBack l D T ad2 I2 R2 _ ct k hAD2 hct hI21 hk hkp) (cwV 1 hts gL_law_X4_goBack rfl rfl rfl (by decide +kernel) ⟨Nat.le_of_ble_eq_true rfl, Nat.le_of_ble_eq_true rfl⟩) ⟨MB.blind, va_recv hK hM (ci := 4) (q0 := 0) rfl mw_0, MB.pre hM hK rfl⟩ rfl rfl hl.1 rfl (lv_room (Nat.le_of_ble_eq_true rfl)) dL_law_680 ⟨hc0, hs0⟩) (fun u2 H locs hu hP hO hM hS => ?_)
      refine lv_istore (lv' := [(6, .int _), (5, .int 0), (0, .ref b), (1, .ref (ad 0)), (2, .ref (ad2 0)), (3, .ref ao), (4, .int (nI i))]) hx hb dL_law_683 hl (by decide) rfl (fun ls hl => ?_)
      obtain ⟨m2, hJ2⟩ := st_goBack hJ hNm hu hk h2
      exact lw_tail C0 hS hP hM hO hl rfl (fun _ => upL_0.trans (congrArg Int32.toInt64 (st_goBackA hJ hk h2))) hJ2 dL_law_685 dL_law_686 dL_law_689 dL_law_691 dL_law_696 dL_law_698 dL_law_701 dL_law_702 dL_law_703 dL_law_704 dL_law_706 dL_law_707 dL_law_708 dL_law_713 rfl (by omega) (by omega) hc0 hs0 kN
  · skip
    refine lw_hth hS hP hM hO (vx_runSW (As := [.ref (ad 0), .int v1, .ref ao]) (rest := []) ⟨hx, hb, hml, hown, hts⟩ (h_goBack_t1 l D T ad I R ao hlt v1 h1) (vx_cwSW 3 hts gL_law_L_goBack rfl rfl rfl (by decide +kernel) ⟨Nat.le_of_ble_eq_true rfl, Nat.le_of_ble_eq_true rfl⟩) ⟨XN.blind, XN.pre hP hK hN hXU hXZ hNc hS rfl⟩ rfl rfl hl.1 rfl (lv_room (Nat.le_of_ble_eq_true rfl)) dL_law_668 ⟨hc1, hs1⟩) (fun H locs hP hO hM hS => ?_)
    refine lv_istore (lv' := [(5, .int 1), (0, .ref b), (1, .ref (ad 0)), (2, .ref (ad2 0)), (3, .ref ao), (4, .int (nI i))]) hx hb dL_law_671 hl (by decide) rfl (fun ls hl => ?_)
    refine lv_aload_n hx hb dL_law_673 rfl (lv_at hl 3 rfl) ?_
    refine lw_arg (q := 1) C0 hS (lv_at hl 1 rfl) (lv_at hl 5 rfl) (by omega) (by decide) dL_law_674 dL_law_675 dL_law_677 dL_law_678 dL_law_679 e1 ?_
    refine lw_mi C0 hS hP hO (va_runV (As := [.int v1]) (rest := []) ⟨hx, hb, hml, hown, hts⟩ (c_X4_goBack_e1 l D T ad2 I2 R2 _ v1 hAD2 h1) (cwV 1 hts gL_law_X4_goBack rfl rfl rfl (by decide +kernel) ⟨Nat.le_of_ble_eq_true rfl, Nat.le_of_ble_eq_true rfl⟩) ⟨MB.blind, va_recv hK hM (ci := 4) (q0 := 0) rfl mw_0, MB.pre hM hK rfl⟩ rfl rfl hl.1 rfl (lv_room (Nat.le_of_ble_eq_true rfl)) dL_law_680 ⟨hc1, hs1⟩) (fun u2 H locs hu hP hO hM hS => ?_)
    refine lv_istore (lv' := [(6, .int _), (5, .int 1), (0, .ref b), (1, .ref (ad 0)), (2, .ref (ad2 0)), (3, .ref ao), (4, .int (nI i))]) hx hb dL_law_683 hl (by decide) rfl (fun ls hl => ?_)
    exact lw_tail C0 hS hP hM hO hl rfl (fun h => absurd h (by decide)) (st_same hJ rfl rfl (fun _ _ => rfl) (fun _ _ => rfl)) dL_law_685 dL_law_686 dL_law_689 dL_law_691 dL_law_696 dL_law_698 dL_law_701 dL_law_702 dL_law_703 dL_law_704 dL_law_706 dL_law_707 dL_law_708 dL_law_713 rfl (by omega) (by omega) hc1 hs1 kN
set_option maxHeartbeats 4000000 in
set_option maxRecDepth 100000 in
theorem lc_undo {p : Program} {l : Launch} {e : Env} {s : State} {m : MethodId} {args : Array Value} {below : List Frame} {meth : Method} {c : Code} {H : Heap} {locs : List Loc} {cells slots : Nat} {Q : State → Prop} {D : va_G} {T : Nat → ClassId} {ad ad2 : Nat → Nat} {ao : Nat} {b : Addr} {L : Nat} {xs : Nat → Int32} {ls : Array Slot} {i : Nat} (C0 : LwF p l s m c args D T ad ad2 ao b L xs) (J : LJ D T ad ad2 ao H) (hS : va_S (LwA s) s.heap H locs) (hl : lv_has ls 9 (lwLv b ad ad2 ao i)) (hi : i + 2 < L) (hc : cells + 1 ≤ 649774) (hs : slots + 6 ≤ 7146782) (kN : LwK p l e s m args below meth c Q D T ad ad2 ao b i cells slots) : W p l e room_1 s m args below meth c H locs cells slots Q (F0 m 716 ls []) := by
  have C1 := C0
  obtain ⟨hx, hb, hml, hown, hts, hK, hN, hXU, hXZ, hNc, hAD, hAD2, hap, hao, hao2, hge, hge2, hgo, hX, hbl, hlt, hL⟩ := C1
  obtain ⟨I, R, I2, R2, g, m9, nx, ct, ks, len, hP, hM, hO, hJ, hNm⟩ := lj_norm J
  have hc0 : cells + 0 ≤ room_1.cells := show cells + 0 ≤ 649774 by omega
  have hs0 : slots + 0 ≤ room_1.slots := show slots + 0 ≤ 7146782 by omega
  have hc1 : cells + 1 ≤ room_1.cells := hc
  have hs1 : slots + 6 ≤ room_1.slots := hs
  have hnx : nx < 6 := hJ.2.1.1
  have hct : ct ≤ 6 := hJ.2.1.2.1
  have hI1 : I 1 = nI nx := hJ.2.1.2.2.1
  have hI2 : I 2 = nI ct := hJ.2.1.2.2.2.1
  have hI21 : I2 1 = nI ct := hJ.2.2.1
  have hI4 : I 4 = nI m9 := hJ.1.1
  have hrl : RlW m9 (R2 0) := hJ.1.2.1
  have hm : m9 < 256 := hrl.1
  have hI5 : I 5 = R2 0 24 := hJ.1.2.2.1
  have hbd : BdA (R2 0) := hJ.1.2.2.2.2.2
  have hks : ks < 4 := hJ.2.2.2.1.1
  have hI0 : I 0 = nI ks := hJ.2.2.2.1.2.1
  have hTx : TxT (R2 4) len := hJ.2.2.2.2.1
  have hlen : len ≤ 60 := hTx.1
  have hI3 : I 3 = nI len := hJ.2.2.2.2.2.1
  have hI22 : I2 2 = nI len := hJ.2.2.2.2.2.2.1
  have n0 : R 0 = R2 0 := hNm.1
  have n1 : R 1 = qz (R2 0) := hNm.2.1
  have n18 : R 18 = R2 4 := hNm.2.2
  refine lv_aload_n hx hb dL_law_716 rfl (lv_at hl 1 rfl) ?_
  refine lv_aload_n hx hb dL_law_717 rfl (lv_at hl 3 rfl) ?_
  rcases Nat.eq_zero_or_pos ct with h1 | h1
  · have g2 : I 2 = 0 := by rw [hI2, h1]; rfl
    have g1 : I2 1 = 0 := by rw [hI21, h1]; rfl
    refine lw_hth hS hP hM hO (vx_runSW (As := [.ref (ad 0), .ref ao]) (rest := []) ⟨hx, hb, hml, hown, hts⟩ (h_undo_t1 l D T ad I R ao hlt g2) (vx_cwSW 2 hts gL_law_L_undo rfl rfl rfl (by decide +kernel) ⟨Nat.le_of_ble_eq_true rfl, Nat.le_of_ble_eq_true rfl⟩) ⟨XN.blind, XN.pre hP hK hN hXU hXZ hNc hS rfl⟩ rfl rfl hl.1 rfl (lv_room (Nat.le_of_ble_eq_true rfl)) dL_law_718 ⟨hc1, hs1⟩) (fun H locs hP hO hM hS => ?_)
    refine lv_istore (lv' := [(5, .int 1), (0, .ref b), (1, .ref (ad 0)), (2, .ref (ad2 0)), (3, .ref ao), (4, .int (nI i))]) hx hb dL_law_721 hl (by decide) rfl (fun ls hl => ?_)
    refine lv_aload_n hx hb dL_law_723 rfl (lv_at hl 3 rfl) ?_
    refine lw_mi C0 hS hP hO (va_runV (As := []) (rest := []) ⟨hx, hb, hml, hown, hts⟩ (c_X4_undo_e1 l D T ad2 I2 R2 _ hAD2 g1) (cwV 0 hts gL_law_X4_undo rfl rfl rfl (by decide +kernel) ⟨Nat.le_of_ble_eq_true rfl, Nat.le_of_ble_eq_true rfl⟩) ⟨MB.blind, va_recv hK hM (ci := 4) (q0 := 0) rfl mw_0, MB.pre hM hK rfl⟩ rfl rfl hl.1 rfl (lv_room (Nat.le_of_ble_eq_true rfl)) dL_law_724 ⟨hc1, hs1⟩) (fun u2 H locs hu hP hO hM hS => ?_)
    refine lv_istore (lv' := [(6, .int _), (5, .int 1), (0, .ref b), (1, .ref (ad 0)), (2, .ref (ad2 0)), (3, .ref ao), (4, .int (nI i))]) hx hb dL_law_727 hl (by decide) rfl (fun ls hl => ?_)
    exact lw_tail C0 hS hP hM hO hl rfl (fun h => absurd h (by decide)) (st_same hJ rfl rfl (fun _ _ => rfl) (fun _ _ => rfl)) dL_law_729 dL_law_730 dL_law_733 dL_law_735 dL_law_740 dL_law_742 dL_law_745 dL_law_746 dL_law_747 dL_law_748 dL_law_750 dL_law_751 dL_law_752 dL_law_757 rfl (by omega) (by omega) hc1 hs1 kN
  · skip
    refine lw_hok C0 hS hM (vx_runSW (As := [.ref (ad 0), .ref ao]) (rest := []) ⟨hx, hb, hml, hown, hts⟩ (h_undo l D T ad I R _ ao g nx ct hAD hnx hct hI1 hI2 h1 hao) (vx_cwSW 2 hts gL_law_L_undo rfl rfl rfl (by decide +kernel) ⟨Nat.le_of_ble_eq_true rfl, Nat.le_of_ble_eq_true rfl⟩) ⟨HB.blind, HB.pre hP hO hK hN rfl⟩ rfl rfl hl.1 rfl (lv_room (Nat.le_of_ble_eq_true rfl)) dL_law_718 ⟨hc0, hs0⟩) (fun u1 H locs hP hO hM hS => ?_)
    refine lv_istore (lv' := [(5, .int 0), (0, .ref b), (1, .ref (ad 0)), (2, .ref (ad2 0)), (3, .ref ao), (4, .int (nI i))]) hx hb dL_law_721 hl (by decide) rfl (fun ls hl => ?_)
    refine lv_aload_n hx hb dL_law_723 rfl (lv_at hl 3 rfl) ?_
    refine lw_mi C0 hS hP hO (va_runV (As := []) (rest := []) ⟨hx, hb, hml, hown, hts⟩ (c_X4_undo l D T ad2 I2 R2 _ ct hAD2 hct hI21 h1) (cwV 0 hts gL_law_X4_undo rfl rfl rfl (by decide +kernel) ⟨Nat.le_of_ble_eq_true rfl, Nat.le_of_ble_eq_true rfl⟩) ⟨MB.blind, va_recv hK hM (ci := 4) (q0 := 0) rfl mw_0, MB.pre hM hK rfl⟩ rfl rfl hl.1 rfl (lv_room (Nat.le_of_ble_eq_true rfl)) dL_law_724 ⟨hc0, hs0⟩) (fun u2 H locs hu hP hO hM hS => ?_)
    refine lv_istore (lv' := [(6, .int _), (5, .int 0), (0, .ref b), (1, .ref (ad 0)), (2, .ref (ad2 0)), (3, .ref ao), (4, .int (nI i))]) hx hb dL_law_727 hl (by decide) rfl (fun ls hl => ?_)
    obtain ⟨m2, hJ2⟩ := st_undo hJ h1
    exact lw_tail C0 hS hP hM hO hl rfl (fun _ => upL_0.trans (congrArg Int32.toInt64 (rfl))) hJ2 dL_law_729 dL_law_730 dL_law_733 dL_law_735 dL_law_740 dL_law_742 dL_law_745 dL_law_746 dL_law_747 dL_law_748 dL_law_750 dL_law_751 dL_law_752 dL_law_757 rfl (by omega) (by omega) hc0 hs0 kN

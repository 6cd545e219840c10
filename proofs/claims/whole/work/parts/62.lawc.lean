set_option maxHeartbeats 4000000 in
set_option maxRecDepth 100000 in
theorem lc_wheelOf {p : Program} {l : Launch} {e : Env} {s : State} {m : MethodId} {args : Array Value} {below : List Frame} {meth : Method} {c : Code} {H : Heap} {locs : List Loc} {cells slots : Nat} {Q : State → Prop} {D : va_G} {T : Nat → ClassId} {ad ad2 : Nat → Nat} {ao : Nat} {b : Addr} {L : Nat} {xs : Nat → Int32} {ls : Array Slot} {i : Nat} (C0 : LwF p l s m c args D T ad ad2 ao b L xs) (J : LJ D T ad ad2 ao H) (hS : va_S (LwA s) s.heap H locs) (hl : lv_has ls 9 (lwLv b ad ad2 ao i)) (hi : i + 2 < L) (hc : cells + 1 ≤ 649774) (hs : slots + 6 ≤ 7146782) (kN : LwK p l e s m args below meth c Q D T ad ad2 ao b i cells slots) : W p l e room_1 s m args below meth c H locs cells slots Q (F0 m 760 ls []) := by
  have C1 := C0
  obtain ⟨hx, hb, hml, hown, hts, hK, hN, hXU, hXZ, hNc, hAD, hAD2, hap, hao, hao2, hge, hge2, hgo, hX, hbl, hlt, hL⟩ := C1
  obtain ⟨I, R, I2, R2, g, m9, nx, ct, ks, len, hP, hM, hO, hJ, hNm⟩ := lj_norm J
  have hc0 : cells + 0 ≤ room_1.cells := show cells + 0 ≤ 649774 by omega
  have hs0 : slots + 0 ≤ room_1.slots := show slots + 0 ≤ 7146782 by omega
  have hc1 : cells + 1 ≤ room_1.cells := hc
  have hs1 : slots + 6 ≤ room_1.slots := hs
  have hnx : nx < 6 := hJ.2.1.1
  have hct : ct ≤ 6 := hJ.2.1.2.1
  have hI1 : I 1 = nI nx := hJ.2.1.2.2.1
  have hI2 : I 2 = nI ct := hJ.2.1.2.2.2.1
  have hI21 : I2 1 = nI ct := hJ.2.2.1
  have hI4 : I 4 = nI m9 := hJ.1.1
  have hrl : RlW m9 (R2 0) := hJ.1.2.1
  have hm : m9 < 256 := hrl.1
  have hI5 : I 5 = R2 0 24 := hJ.1.2.2.1
  have hbd : BdA (R2 0) := hJ.1.2.2.2.2.2
  have hks : ks < 4 := hJ.2.2.2.1.1
  have hI0 : I 0 = nI ks := hJ.2.2.2.1.2.1
  have hTx : TxT (R2 4) len := hJ.2.2.2.2.1
  have hlen : len ≤ 60 := hTx.1
  have hI3 : I 3 = nI len := hJ.2.2.2.2.2.1
  have hI22 : I2 2 = nI len := hJ.2.2.2.2.2.2.1
  have n0 : R 0 = R2 0 := hNm.1
  have n1 : R 1 = qz (R2 0) := hNm.2.1
  have n18 : R 18 = R2 4 := hNm.2.2
  obtain ⟨v1, e1⟩ : ∃ v, xs (i + 1) = v := ⟨_, rfl⟩
  obtain ⟨v2, e2⟩ : ∃ v, xs (i + 2) = v := ⟨_, rfl⟩
  refine lv_aload_n hx hb dL_law_760 rfl (lv_at hl 1 rfl) ?_
  refine lw_arg (q := 1) C0 hS (lv_at hl 0 rfl) (lv_at hl 4 rfl) (by omega) (by decide) dL_law_761 dL_law_762 dL_law_764 dL_law_765 dL_law_766 e1 ?_
  refine lw_arg (q := 2) C0 hS (lv_at hl 0 rfl) (lv_at hl 4 rfl) (by omega) (by decide) dL_law_767 dL_law_768 dL_law_770 dL_law_771 dL_law_772 e2 ?_
  refine lv_aload_n hx hb dL_law_773 rfl (lv_at hl 3 rfl) ?_
  rcases out_01 v1 0 7 with h1 | h1
  · obtain ⟨k, hk, rfl⟩ := out_nat (n := 7) (by decide) h1
    rcases out_01 v2 0 3 with h2 | h2
    · obtain ⟨w, hw, rfl⟩ := out_nat (n := 3) (by decide) h2
      refine lw_hok C0 hS hM (vx_runSW (As := [.ref (ad 0), .int (nI k), .int (nI w), .ref ao]) (rest := []) ⟨hx, hb, hml, hown, hts⟩ (h_wheelOf l D T ad I R _ ao g m9 k w hAD hm hI4 hk hw hao) (vx_cwSW 4 hts gL_law_L_wheelOf rfl rfl rfl (by decide +kernel) ⟨Nat.le_of_ble_eq_true rfl, Nat.le_of_ble_eq_true rfl⟩) ⟨HB.blind, HB.pre hP hO hK hN rfl⟩ rfl rfl hl.1 rfl (lv_room (Nat.le_of_ble_eq_true rfl)) dL_law_774 ⟨hc0, hs0⟩) (fun u1 H locs hP hO hM hS => ?_)
      refine lv_istore (lv' := [(5, .int 0), (0, .ref b), (1, .ref (ad 0)), (2, .ref (ad2 0)), (3, .ref ao), (4, .int (nI i))]) hx hb dL_law_777 hl (by decide) rfl (fun ls hl => ?_)
      refine lv_aload_n hx hb dL_law_779 rfl (lv_at hl 3 rfl) ?_
      refine lw_arg (q := 1) C0 hS (lv_at hl 1 rfl) (lv_at hl 5 rfl) (by omega) (by decide) dL_law_780 dL_law_781 dL_law_783 dL_law_784 dL_law_785 e1 ?_
      refine lw_arg (q := 2) C0 hS (lv_at hl 1 rfl) (lv_at hl 5 rfl) (by omega) (by decide) dL_law_786 dL_law_787 dL_law_789 dL_law_790 dL_law_791 e2 ?_
      refine lw_mi C0 hS hP hO (va_runV (As := [.int (nI k), .int (nI w)]) (rest := []) ⟨hx, hb, hml, hown, hts⟩ (c_X4_wheelOf l D T ad2 I2 R2 _ k w hAD2 hk hw) (cwV 2 hts gL_law_X4_wheelOf rfl rfl rfl (by decide +kernel) ⟨Nat.le_of_ble_eq_true rfl, Nat.le_of_ble_eq_true rfl⟩) ⟨MB.blind, va_recv hK hM (ci := 4) (q0 := 0) rfl mw_0, MB.pre hM hK rfl⟩ rfl rfl hl.1 rfl (lv_room (Nat.le_of_ble_eq_true rfl)) dL_law_792 ⟨hc0, hs0⟩) (fun u2 H locs hu hP hO hM hS => ?_)
      refine lv_istore (lv' := [(6, .int _), (5, .int 0), (0, .ref b), (1, .ref (ad 0)), (2, .ref (ad2 0)), (3, .ref ao), (4, .int (nI i))]) hx hb dL_law_795 hl (by decide) rfl (fun ls hl => ?_)
      exact lw_tail C0 hS hP hM hO hl rfl (fun _ => upL_0.trans (congrArg Int32.toInt64 (by rw [n0, n1]; exact rl_wn hrl hk w))) (st_same hJ rfl rfl (fun _ _ => rfl) (fun _ _ => rfl)) dL_law_797 dL_law_798 dL_law_801 dL_law_803 dL_law_808 dL_law_810 dL_law_813 dL_law_814 dL_law_815 dL_law_816 dL_law_818 dL_law_819 dL_law_820 dL_law_825 rfl (by omega) (by omega) hc0 hs0 kN
    · skip
      refine lw_hth hS hP hM hO (vx_runSW (As := [.ref (ad 0), .int (nI k), .int v2, .ref ao]) (rest := []) ⟨hx, hb, hml, hown, hts⟩ (h_wheelOf_t2 l D T ad I R ao hlt k v2 hk h2) (vx_cwSW 4 hts gL_law_L_wheelOf rfl rfl rfl (by decide +kernel) ⟨Nat.le_of_ble_eq_true rfl, Nat.le_of_ble_eq_true rfl⟩) ⟨XN.blind, XN.pre hP hK hN hXU hXZ hNc hS rfl⟩ rfl rfl hl.1 rfl (lv_room (Nat.le_of_ble_eq_true rfl)) dL_law_774 ⟨hc1, hs1⟩) (fun H locs hP hO hM hS => ?_)
      refine lv_istore (lv' := [(5, .int 2), (0, .ref b), (1, .ref (ad 0)), (2, .ref (ad2 0)), (3, .ref ao), (4, .int (nI i))]) hx hb dL_law_777 hl (by decide) rfl (fun ls hl => ?_)
      refine lv_aload_n hx hb dL_law_779 rfl (lv_at hl 3 rfl) ?_
      refine lw_arg (q := 1) C0 hS (lv_at hl 1 rfl) (lv_at hl 5 rfl) (by omega) (by decide) dL_law_780 dL_law_781 dL_law_783 dL_law_784 dL_law_785 e1 ?_
      refine lw_arg (q := 2) C0 hS (lv_at hl 1 rfl) (lv_at hl 5 rfl) (by omega) (by decide) dL_law_786 dL_law_787 dL_law_789 dL_law_790 dL_law_791 e2 ?_
      refine lw_mi C0 hS hP hO (va_runV (As := [.int (nI k), .int v2]) (rest := []) ⟨hx, hb, hml, hown, hts⟩ (c_X4_wheelOf_e2 l D T ad2 I2 R2 _ k v2 hAD2 hk h2) (cwV 2 hts gL_law_X4_wheelOf rfl rfl rfl (by decide +kernel) ⟨Nat.le_of_ble_eq_true rfl, Nat.le_of_ble_eq_true rfl⟩) ⟨MB.blind, va_recv hK hM (ci := 4) (q0 := 0) rfl mw_0, MB.pre hM hK rfl⟩ rfl rfl hl.1 rfl (lv_room (Nat.le_of_ble_eq_true rfl)) dL_law_792 ⟨hc1, hs1⟩) (fun u2 H locs hu hP hO hM hS => ?_)
      refine lv_istore (lv' := [(6, .int _), (5, .int 2), (0, .ref b), (1, .ref (ad 0)), (2, .ref (ad2 0)), (3, .ref ao), (4, .int (nI i))]) hx hb dL_law_795 hl (by decide) rfl (fun ls hl => ?_)
      exact lw_tail C0 hS hP hM hO hl rfl (fun h => absurd h (by decide)) (st_same hJ rfl rfl (fun _ _ => rfl) (fun _ _ => rfl)) dL_law_797 dL_law_798 dL_law_801 dL_law_803 dL_law_808 dL_law_810 dL_law_813 dL_law_814 dL_law_815 dL_law_816 dL_law_818 dL_law_819 dL_law_820 dL_law_825 rfl (by omega) (by omega) hc1 hs1 kN
  · skip
    refine lw_hth hS hP hM hO (vx_runSW (As := [.ref (ad 0), .int v1, .int v2, .ref ao]) (rest := []) ⟨hx, hb, hml, hown, hts⟩ (h_wheelOf_t1 l D T ad I R ao hlt v1 v2 h1) (vx_cwSW 4 hts gL_law_L_wheelOf rfl rfl rfl (by decide +kernel) ⟨Nat.le_of_ble_eq_true rfl, Nat.le_of_ble_eq_true rfl⟩) ⟨XN.blind, XN.pre hP hK hN hXU hXZ hNc hS rfl⟩ rfl rfl hl.1 rfl (lv_room (Nat.le_of_ble_eq_true rfl)) dL_law_774 ⟨hc1, hs1⟩) (fun H locs hP hO hM hS => ?_)
    refine lv_istore (lv' := [(5, .int 1), (0, .ref b), (1, .ref (ad 0)), (2, .ref (ad2 0)), (3, .ref ao), (4, .int (nI i))]) hx hb dL_law_777 hl (by decide) rfl (fun ls hl => ?_)
    refine lv_aload_n hx hb dL_law_779 rfl (lv_at hl 3 rfl) ?_
    refine lw_arg (q := 1) C0 hS (lv_at hl 1 rfl) (lv_at hl 5 rfl) (by omega) (by decide) dL_law_780 dL_law_781 dL_law_783 dL_law_784 dL_law_785 e1 ?_
    refine lw_arg (q := 2) C0 hS (lv_at hl 1 rfl) (lv_at hl 5 rfl) (by omega) (by decide) dL_law_786 dL_law_787 dL_law_789 dL_law_790 dL_law_791 e2 ?_
    refine lw_mi C0 hS hP hO (va_runV (As := [.int v1, .int v2]) (rest := []) ⟨hx, hb, hml, hown, hts⟩ (c_X4_wheelOf_e1 l D T ad2 I2 R2 _ v1 v2 hAD2 h1) (cwV 2 hts gL_law_X4_wheelOf rfl rfl rfl (by decide +kernel) ⟨Nat.le_of_ble_eq_true rfl, Nat.le_of_ble_eq_true rfl⟩) ⟨MB.blind, va_recv hK hM (ci := 4) (q0 := 0) rfl mw_0, MB.pre hM hK rfl⟩ rfl rfl hl.1 rfl (lv_room (Nat.le_of_ble_eq_true rfl)) dL_law_792 ⟨hc1, hs1⟩) (fun u2 H locs hu hP hO hM hS => ?_)
    refine lv_istore (lv' := [(6, .int _), (5, .int 1), (0, .ref b), (1, .ref (ad 0)), (2, .ref (ad2 0)), (3, .ref ao), (4, .int (nI i))]) hx hb dL_law_795 hl (by decide) rfl (fun ls hl => ?_)
    exact lw_tail C0 hS hP hM hO hl rfl (fun h => absurd h (by decide)) (st_same hJ rfl rfl (fun _ _ => rfl) (fun _ _ => rfl)) dL_law_797 dL_law_798 dL_law_801 dL_law_803 dL_law_808 dL_law_810 dL_law_813 dL_law_814 dL_law_815 dL_law_816 dL_law_818 dL_law_819 dL_law_820 dL_law_825 rfl (by omega) (by omega) hc1 hs1 kN
set_option maxHeartbeats 4000000 in
set_option maxRecDepth 100000 in
theorem lc_trace {p : Program} {l : Launch} {e : Env} {s : State} {m : MethodId} {args : Array Value} {below : List Frame} {meth : Method} {c : Code} {H : Heap} {locs : List Loc} {cells slots : Nat} {Q : State → Prop} {D : va_G} {T : Nat → ClassId} {ad ad2 : Nat → Nat} {ao : Nat} {b : Addr} {L : Nat} {xs : Nat → Int32} {ls : Array Slot} {i : Nat} (C0 : LwF p l s m c args D T ad ad2 ao b L xs) (J : LJ D T ad ad2 ao H) (hS : va_S (LwA s) s.heap H locs) (hl : lv_has ls 9 (lwLv b ad ad2 ao i)) (hi : i + 2 < L) (hc : cells + 1 ≤ 649774) (hs : slots + 6 ≤ 7146782) (kN : LwK p l e s m args below meth c Q D T ad ad2 ao b i cells slots) : W p l e room_1 s m args below meth c H locs cells slots Q (F0 m 828 ls []) := by
  have C1 := C0
  obtain ⟨hx, hb, hml, hown, hts, hK, hN, hXU, hXZ, hNc, hAD, hAD2, hap, hao, hao2, hge, hge2, hgo, hX, hbl, hlt, hL⟩ := C1
  obtain ⟨I, R, I2, R2, g, m9, nx, ct, ks, len, hP, hM, hO, hJ, hNm⟩ := lj_norm J
  have hc0 : cells + 0 ≤ room_1.cells := show cells + 0 ≤ 649774 by omega
  have hs0 : slots + 0 ≤ room_1.slots := show slots + 0 ≤ 7146782 by omega
  have hc1 : cells + 1 ≤ room_1.cells := hc
  have hs1 : slots + 6 ≤ room_1.slots := hs
  have hnx : nx < 6 := hJ.2.1.1
  have hct : ct ≤ 6 := hJ.2.1.2.1
  have hI1 : I 1 = nI nx := hJ.2.1.2.2.1
  have hI2 : I 2 = nI ct := hJ.2.1.2.2.2.1
  have hI21 : I2 1 = nI ct := hJ.2.2.1
  have hI4 : I 4 = nI m9 := hJ.1.1
  have hrl : RlW m9 (R2 0) := hJ.1.2.1
  have hm : m9 < 256 := hrl.1
  have hI5 : I 5 = R2 0 24 := hJ.1.2.2.1
  have hbd : BdA (R2 0) := hJ.1.2.2.2.2.2
  have hks : ks < 4 := hJ.2.2.2.1.1
  have hI0 : I 0 = nI ks := hJ.2.2.2.1.2.1
  have hTx : TxT (R2 4) len := hJ.2.2.2.2.1
  have hlen : len ≤ 60 := hTx.1
  have hI3 : I 3 = nI len := hJ.2.2.2.2.2.1
  have hI22 : I2 2 = nI len := hJ.2.2.2.2.2.2.1
  have n0 : R 0 = R2 0 := hNm.1
  have n1 : R 1 = qz (R2 0) := hNm.2.1
  have n18 : R 18 = R2 4 := hNm.2.2
  obtain ⟨v1, e1⟩ : ∃ v, xs (i + 1) = v := ⟨_, rfl⟩
  obtain ⟨v2, e2⟩ : ∃ v, xs (i + 2) = v := ⟨_, rfl⟩
  refine lv_aload_n hx hb dL_law_828 rfl (lv_at hl 1 rfl) ?_
  refine lw_arg (q := 1) C0 hS (lv_at hl 0 rfl) (lv_at hl 4 rfl) (by omega) (by decide) dL_law_829 dL_law_830 dL_law_832 dL_law_833 dL_law_834 e1 ?_
  refine lw_arg (q := 2) C0 hS (lv_at hl 0 rfl) (lv_at hl 4 rfl) (by omega) (by decide) dL_law_835 dL_law_836 dL_law_838 dL_law_839 dL_law_840 e2 ?_
  refine lv_aload_n hx hb dL_law_841 rfl (lv_at hl 3 rfl) ?_
  rcases out_01 v1 0 7 with h1 | h1
  · obtain ⟨k, hk, rfl⟩ := out_nat (n := 7) (by decide) h1
    rcases out_01 v2 0 1 with h2 | h2
    · obtain ⟨w, hw, hw9⟩ := out_nat (n := 1) (by decide) h2
      rcases (show w = 0 ∨ w = 1 by omega) with hw0 | hw0
      · obtain rfl : v2 = 0 := by rw [hw9, hw0]; rfl
        refine lw_hok C0 hS hM (vx_runSW (As := [.ref (ad 0), .int (nI k), .int 0, .ref ao]) (rest := []) ⟨hx, hb, hml, hown, hts⟩ (h_trace0 l D T ad I R _ ao g m9 k hAD hm hI4 hk hao) (vx_cwSW 4 hts gL_law_L_trace rfl rfl rfl (by decide +kernel) ⟨Nat.le_of_ble_eq_true rfl, Nat.le_of_ble_eq_true rfl⟩) ⟨HB.blind, HB.pre hP hO hK hN rfl⟩ rfl rfl hl.1 rfl (lv_room (Nat.le_of_ble_eq_true rfl)) dL_law_842 ⟨hc0, hs0⟩) (fun u1 H locs hP hO hM hS => ?_)
        refine lv_istore (lv' := [(5, .int 0), (0, .ref b), (1, .ref (ad 0)), (2, .ref (ad2 0)), (3, .ref ao), (4, .int (nI i))]) hx hb dL_law_845 hl (by decide) rfl (fun ls hl => ?_)
        refine lv_aload_n hx hb dL_law_847 rfl (lv_at hl 3 rfl) ?_
        refine lw_arg (q := 1) C0 hS (lv_at hl 1 rfl) (lv_at hl 5 rfl) (by omega) (by decide) dL_law_848 dL_law_849 dL_law_851 dL_law_852 dL_law_853 e1 ?_
        refine lw_arg (q := 2) C0 hS (lv_at hl 1 rfl) (lv_at hl 5 rfl) (by omega) (by decide) dL_law_854 dL_law_855 dL_law_857 dL_law_858 dL_law_859 e2 ?_
        refine lw_mi C0 hS hP hO (va_runV (As := [.int (nI k), .int 0]) (rest := []) ⟨hx, hb, hml, hown, hts⟩ (c_X4_trace l D T ad2 I2 R2 _ k 0 hAD2 hk (by decide)) (cwV 2 hts gL_law_X4_trace rfl rfl rfl (by decide +kernel) ⟨Nat.le_of_ble_eq_true rfl, Nat.le_of_ble_eq_true rfl⟩) ⟨MB.blind, va_recv hK hM (ci := 4) (q0 := 0) rfl mw_0, MB.pre hM hK rfl⟩ rfl rfl hl.1 rfl (lv_room (Nat.le_of_ble_eq_true rfl)) dL_law_860 ⟨hc0, hs0⟩) (fun u2 H locs hu hP hO hM hS => ?_)
        refine lv_istore (lv' := [(6, .int _), (5, .int 0), (0, .ref b), (1, .ref (ad 0)), (2, .ref (ad2 0)), (3, .ref ao), (4, .int (nI i))]) hx hb dL_law_863 hl (by decide) rfl (fun ls hl => ?_)
        exact lw_tail C0 hS hP hM hO hl rfl (fun _ => upL_0.trans (congrArg Int32.toInt64 (by rw [n0]; exact rl_tr hrl k))) (st_same hJ rfl rfl (fun _ _ => rfl) (fun _ _ => rfl)) dL_law_865 dL_law_866 dL_law_869 dL_law_871 dL_law_876 dL_law_878 dL_law_881 dL_law_882 dL_law_883 dL_law_884 dL_law_886 dL_law_887 dL_law_888 dL_law_893 rfl (by omega) (by omega) hc0 hs0 kN
      · obtain rfl : v2 = 1 := by rw [hw9, hw0]; rfl
        refine lw_hok C0 hS hM (vx_runSW (As := [.ref (ad 0), .int (nI k), .int 1, .ref ao]) (rest := []) ⟨hx, hb, hml, hown, hts⟩ (h_trace1 l D T ad I R _ ao g m9 k hAD hm hI4 hk hao) (vx_cwSW 4 hts gL_law_L_trace rfl rfl rfl (by decide +kernel) ⟨Nat.le_of_ble_eq_true rfl, Nat.le_of_ble_eq_true rfl⟩) ⟨HB.blind, HB.pre hP hO hK hN rfl⟩ rfl rfl hl.1 rfl (lv_room (Nat.le_of_ble_eq_true rfl)) dL_law_842 ⟨hc0, hs0⟩) (fun u1 H locs hP hO hM hS => ?_)
        refine lv_istore (lv' := [(5, .int 0), (0, .ref b), (1, .ref (ad 0)), (2, .ref (ad2 0)), (3, .ref ao), (4, .int (nI i))]) hx hb dL_law_845 hl (by decide) rfl (fun ls hl => ?_)
        refine lv_aload_n hx hb dL_law_847 rfl (lv_at hl 3 rfl) ?_
        refine lw_arg (q := 1) C0 hS (lv_at hl 1 rfl) (lv_at hl 5 rfl) (by omega) (by decide) dL_law_848 dL_law_849 dL_law_851 dL_law_852 dL_law_853 e1 ?_
        refine lw_arg (q := 2) C0 hS (lv_at hl 1 rfl) (lv_at hl 5 rfl) (by omega) (by decide) dL_law_854 dL_law_855 dL_law_857 dL_law_858 dL_law_859 e2 ?_
        refine lw_mi C0 hS hP hO (va_runV (As := [.int (nI k), .int 1]) (rest := []) ⟨hx, hb, hml, hown, hts⟩ (c_X4_trace l D T ad2 I2 R2 _ k 1 hAD2 hk (by decide)) (cwV 2 hts gL_law_X4_trace rfl rfl rfl (by decide +kernel) ⟨Nat.le_of_ble_eq_true rfl, Nat.le_of_ble_eq_true rfl⟩) ⟨MB.blind, va_recv hK hM (ci := 4) (q0 := 0) rfl mw_0, MB.pre hM hK rfl⟩ rfl rfl hl.1 rfl (lv_room (Nat.le_of_ble_eq_true rfl)) dL_law_860 ⟨hc0, hs0⟩) (fun u2 H locs hu hP hO hM hS => ?_)
        refine lv_istore (lv' := [(6, .int _), (5, .int 0), (0, .ref b), (1, .ref (ad 0)), (2, .ref (ad2 0)), (3, .ref ao), (4, .int (nI i))]) hx hb dL_law_863 hl (by decide) rfl (fun ls hl => ?_)
        exact lw_tail C0 hS hP hM hO hl rfl (fun _ => upL_0.trans (congrArg Int32.toInt64 (by rw [n0]; exact rl_tr hrl k))) (st_same hJ rfl rfl (fun j hj => ur_ne (by omega)) (fun _ _ => rfl)) dL_law_865 dL_law_866 dL_law_869 dL_law_871 dL_law_876 dL_law_878 dL_law_881 dL_law_882 dL_law_883 dL_law_884 dL_law_886 dL_law_887 dL_law_888 dL_law_893 rfl (by omega) (by omega) hc0 hs0 kN
    · skip
      refine lw_hth hS hP hM hO (vx_runSW (As := [.ref (ad 0), .int (nI k), .int v2, .ref ao]) (rest := []) ⟨hx, hb, hml, hown, hts⟩ (h_trace_t2 l D T ad I R ao hlt k v2 hk h2) (vx_cwSW 4 hts gL_law_L_trace rfl rfl rfl (by decide +kernel) ⟨Nat.le_of_ble_eq_true rfl, Nat.le_of_ble_eq_true rfl⟩) ⟨XN.blind, XN.pre hP hK hN hXU hXZ hNc hS rfl⟩ rfl rfl hl.1 rfl (lv_room (Nat.le_of_ble_eq_true rfl)) dL_law_842 ⟨hc1, hs1⟩) (fun H locs hP hO hM hS => ?_)
      refine lv_istore (lv' := [(5, .int 2), (0, .ref b), (1, .ref (ad 0)), (2, .ref (ad2 0)), (3, .ref ao), (4, .int (nI i))]) hx hb dL_law_845 hl (by decide) rfl (fun ls hl => ?_)
      refine lv_aload_n hx hb dL_law_847 rfl (lv_at hl 3 rfl) ?_
      refine lw_arg (q := 1) C0 hS (lv_at hl 1 rfl) (lv_at hl 5 rfl) (by omega) (by decide) dL_law_848 dL_law_849 dL_law_851 dL_law_852 dL_law_853 e1 ?_
      refine lw_arg (q := 2) C0 hS (lv_at hl 1 rfl) (lv_at hl 5 rfl) (by omega) (by decide) dL_law_854 dL_law_855 dL_law_857 dL_law_858 dL_law_859 e2 ?_
      refine lw_mi C0 hS hP hO (va_runV (As := [.int (nI k), .int v2]) (rest := []) ⟨hx, hb, hml, hown, hts⟩ (c_X4_trace_e2 l D T ad2 I2 R2 _ k v2 hAD2 hk h2) (cwV 2 hts gL_law_X4_trace rfl rfl rfl (by decide +kernel) ⟨Nat.le_of_ble_eq_true rfl, Nat.le_of_ble_eq_true rfl⟩) ⟨MB.blind, va_recv hK hM (ci := 4) (q0 := 0) rfl mw_0, MB.pre hM hK rfl⟩ rfl rfl hl.1 rfl (lv_room (Nat.le_of_ble_eq_true rfl)) dL_law_860 ⟨hc1, hs1⟩) (fun u2 H locs hu hP hO hM hS => ?_)
      refine lv_istore (lv' := [(6, .int _), (5, .int 2), (0, .ref b), (1, .ref (ad 0)), (2, .ref (ad2 0)), (3, .ref ao), (4, .int (nI i))]) hx hb dL_law_863 hl (by decide) rfl (fun ls hl => ?_)
      exact lw_tail C0 hS hP hM hO hl rfl (fun h => absurd h (by decide)) (st_same hJ rfl rfl (fun _ _ => rfl) (fun _ _ => rfl)) dL_law_865 dL_law_866 dL_law_869 dL_law_871 dL_law_876 dL_law_878 dL_law_881 dL_law_882 dL_law_883 dL_law_884 dL_law_886 dL_law_887 dL_law_888 dL_law_893 rfl (by omega) (by omega) hc1 hs1 kN
  · skip
    refine lw_hth hS hP hM hO (vx_runSW (As := [.ref (ad 0), .int v1, .int v2, .ref ao]) (rest := []) ⟨hx, hb, hml, hown, hts⟩ (h_trace_t1 l D T ad I R ao hlt v1 v2 h1) (vx_cwSW 4 hts gL_law_L_trace rfl rfl rfl (by decide +kernel) ⟨Nat.le_of_ble_eq_true rfl, Nat.le_of_ble_eq_true rfl⟩) ⟨XN.blind, XN.pre hP hK hN hXU hXZ hNc hS rfl⟩ rfl rfl hl.1 rfl (lv_room (Nat.le_of_ble_eq_true rfl)) dL_law_842 ⟨hc1, hs1⟩) (fun H locs hP hO hM hS => ?_)
    refine lv_istore (lv' := [(5, .int 1), (0, .ref b), (1, .ref (ad 0)), (2, .ref (ad2 0)), (3, .ref ao), (4, .int (nI i))]) hx hb dL_law_845 hl (by decide) rfl (fun ls hl => ?_)
    refine lv_aload_n hx hb dL_law_847 rfl (lv_at hl 3 rfl) ?_
    refine lw_arg (q := 1) C0 hS (lv_at hl 1 rfl) (lv_at hl 5 rfl) (by omega) (by decide) dL_law_848 dL_law_849 dL_law_851 dL_law_852 dL_law_853 e1 ?_
    refine lw_arg (q := 2) C0 hS (lv_at hl 1 rfl) (lv_at hl 5 rfl) (by omega) (by decide) dL_law_854 dL_law_855 dL_law_857 dL_law_858 dL_law_859 e2 ?_
    refine lw_mi C0 hS hP hO (va_runV (As := [.int v1, .int v2]) (rest := []) ⟨hx, hb, hml, hown, hts⟩ (c_X4_trace_e1 l D T ad2 I2 R2 _ v1 v2 hAD2 h1) (cwV 2 hts gL_law_X4_trace rfl rfl rfl (by decide +kernel) ⟨Nat.le_of_ble_eq_true rfl, Nat.le_of_ble_eq_true rfl⟩) ⟨MB.blind, va_recv hK hM (ci := 4) (q0 := 0) rfl mw_0, MB.pre hM hK rfl⟩ rfl rfl hl.1 rfl (lv_room (Nat.le_of_ble_eq_true rfl)) dL_law_860 ⟨hc1, hs1⟩) (fun u2 H locs hu hP hO hM hS => ?_)
    refine lv_istore (lv' := [(6, .int _), (5, .int 1), (0, .ref b), (1, .ref (ad 0)), (2, .ref (ad2 0)), (3, .ref ao), (4, .int (nI i))]) hx hb dL_law_863 hl (by decide) rfl (fun ls hl => ?_)
    exact lw_tail C0 hS hP hM hO hl rfl (fun h => absurd h (by decide)) (st_same hJ rfl rfl (fun _ _ => rfl) (fun _ _ => rfl)) dL_law_865 dL_law_866 dL_law_869 dL_law_871 dL_law_876 dL_law_878 dL_law_881 dL_law_882 dL_law_883 dL_law_884 dL_law_886 dL_law_887 dL_law_888 dL_law_893 rfl (by omega) (by omega) hc1 hs1 kN
set_option maxHeartbeats 4000000 in
set_option maxRecDepth 100000 in
theorem lc_pointOf {p : Program} {l : Launch} {e : Env} {s : State} {m : MethodId} {args : Array Value} {below : List Frame} {meth : Method} {c : Code} {H : Heap} {locs : List Loc} {cells slots : Nat} {Q : State → Prop} {D : va_G} {T : Nat → ClassId} {ad ad2 : Nat → Nat} {ao : Nat} {b : Addr} {L : Nat} {xs : Nat → Int32} {ls : Array Slot} {i : Nat} (C0 : LwF p l s m c args D T ad ad2 ao b L xs) (J : LJ D T ad ad2 ao H) (hS : va_S (LwA s) s.heap H locs) (hl : lv_has ls 9 (lwLv b ad ad2 ao i)) (hi : i + 2 < L) (hc : cells + 1 ≤ 649774) (hs : slots + 6 ≤ 7146782) (kN : LwK p l e s m args below meth c Q D T ad ad2 ao b i cells slots) : W p l e room_1 s m args below meth c H locs cells slots Q (F0 m 896 ls []) := by
  have C1 := C0
  obtain ⟨hx, hb, hml, hown, hts, hK, hN, hXU, hXZ, hNc, hAD, hAD2, hap, hao, hao2, hge, hge2, hgo, hX, hbl, hlt, hL⟩ := C1
  obtain ⟨I, R, I2, R2, g, m9, nx, ct, ks, len, hP, hM, hO, hJ, hNm⟩ := lj_norm J
  have hc0 : cells + 0 ≤ room_1.cells := show cells + 0 ≤ 649774 by omega
  have hs0 : slots + 0 ≤ room_1.slots := show slots + 0 ≤ 7146782 by omega
  have hc1 : cells + 1 ≤ room_1.cells := hc
  have hs1 : slots + 6 ≤ room_1.slots := hs
  have hnx : nx < 6 := hJ.2.1.1
  have hct : ct ≤ 6 := hJ.2.1.2.1
  have hI1 : I 1 = nI nx := hJ.2.1.2.2.1
  have hI2 : I 2 = nI ct := hJ.2.1.2.2.2.1
  have hI21 : I2 1 = nI ct := hJ.2.2.1
  have hI4 : I 4 = nI m9 := hJ.1.1
  have hrl : RlW m9 (R2 0) := hJ.1.2.1
  have hm : m9 < 256 := hrl.1
  have hI5 : I 5 = R2 0 24 := hJ.1.2.2.1
  have hbd : BdA (R2 0) := hJ.1.2.2.2.2.2
  have hks : ks < 4 := hJ.2.2.2.1.1
  have hI0 : I 0 = nI ks := hJ.2.2.2.1.2.1
  have hTx : TxT (R2 4) len := hJ.2.2.2.2.1
  have hlen : len ≤ 60 := hTx.1
  have hI3 : I 3 = nI len := hJ.2.2.2.2.2.1
  have hI22 : I2 2 = nI len := hJ.2.2.2.2.2.2.1
  have n0 : R 0 = R2 0 := hNm.1
  have n1 : R 1 = qz (R2 0) := hNm.2.1
  have n18 : R 18 = R2 4 := hNm.2.2
  obtain ⟨v1, e1⟩ : ∃ v, xs (i + 1) = v := ⟨_, rfl⟩
  obtain ⟨v2, e2⟩ : ∃ v, xs (i + 2) = v := ⟨_, rfl⟩
  refine lv_aload_n hx hb dL_law_896 rfl (lv_at hl 1 rfl) ?_
  refine lw_arg (q := 1) C0 hS (lv_at hl 0 rfl) (lv_at hl 4 rfl) (by omega) (by decide) dL_law_897 dL_law_898 dL_law_900 dL_law_901 dL_law_902 e1 ?_
  refine lw_arg (q := 2) C0 hS (lv_at hl 0 rfl) (lv_at hl 4 rfl) (by omega) (by decide) dL_law_903 dL_law_904 dL_law_906 dL_law_907 dL_law_908 e2 ?_
  refine lv_aload_n hx hb dL_law_909 rfl (lv_at hl 3 rfl) ?_
  rcases out_01 v1 0 7 with h1 | h1
  · obtain ⟨k, hk, rfl⟩ := out_nat (n := 7) (by decide) h1
    rcases out_01 v2 0 2 with h2 | h2
    · obtain ⟨w, hw, rfl⟩ := out_nat (n := 2) (by decide) h2
      refine lw_hok C0 hS hM (vx_runSW (As := [.ref (ad 0), .int (nI k), .int (nI w), .ref ao]) (rest := []) ⟨hx, hb, hml, hown, hts⟩ (h_pointOf l D T ad I R _ ao g m9 k w hAD hm hI4 hk hw hao) (vx_cwSW 4 hts gL_law_L_pointOf rfl rfl rfl (by decide +kernel) ⟨Nat.le_of_ble_eq_true rfl, Nat.le_of_ble_eq_true rfl⟩) ⟨HB.blind, HB.pre hP hO hK hN rfl⟩ rfl rfl hl.1 rfl (lv_room (Nat.le_of_ble_eq_true rfl)) dL_law_910 ⟨hc0, hs0⟩) (fun u1 H locs hP hO hM hS => ?_)
      refine lv_istore (lv' := [(5, .int 0), (0, .ref b), (1, .ref (ad 0)), (2, .ref (ad2 0)), (3, .ref ao), (4, .int (nI i))]) hx hb dL_law_913 hl (by decide) rfl (fun ls hl => ?_)
      refine lv_aload_n hx hb dL_law_915 rfl (lv_at hl 3 rfl) ?_
      refine lw_arg (q := 1) C0 hS (lv_at hl 1 rfl) (lv_at hl 5 rfl) (by omega) (by decide) dL_law_916 dL_law_917 dL_law_919 dL_law_920 dL_law_921 e1 ?_
      refine lw_arg (q := 2) C0 hS (lv_at hl 1 rfl) (lv_at hl 5 rfl) (by omega) (by decide) dL_law_922 dL_law_923 dL_law_925 dL_law_926 dL_law_927 e2 ?_
      refine lw_mi C0 hS hP hO (va_runV (As := [.int (nI k), .int (nI w)]) (rest := []) ⟨hx, hb, hml, hown, hts⟩ (c_X4_pointOf l D T ad2 I2 R2 _ k w hAD2 hk hw) (cwV 2 hts gL_law_X4_pointOf rfl rfl rfl (by decide +kernel) ⟨Nat.le_of_ble_eq_true rfl, Nat.le_of_ble_eq_true rfl⟩) ⟨MB.blind, va_recv hK hM (ci := 4) (q0 := 0) rfl mw_0, MB.pre hM hK rfl⟩ rfl rfl hl.1 rfl (lv_room (Nat.le_of_ble_eq_true rfl)) dL_law_928 ⟨hc0, hs0⟩) (fun u2 H locs hu hP hO hM hS => ?_)
      refine lv_istore (lv' := [(6, .int _), (5, .int 0), (0, .ref b), (1, .ref (ad 0)), (2, .ref (ad2 0)), (3, .ref ao), (4, .int (nI i))]) hx hb dL_law_931 hl (by decide) rfl (fun ls hl => ?_)
      exact lw_tail C0 hS hP hM hO hl rfl (fun _ => upL_0.trans (congrArg Int32.toInt64 (by rw [n0, n1]; exact congrFun (congrFun (rl_pn hrl) k) w))) (st_same hJ rfl rfl (fun _ _ => rfl) (fun _ _ => rfl)) dL_law_933 dL_law_934 dL_law_937 dL_law_939 dL_law_944 dL_law_946 dL_law_949 dL_law_950 dL_law_951 dL_law_952 dL_law_954 dL_law_955 dL_law_956 dL_law_961 rfl (by omega) (by omega) hc0 hs0 kN
    · skip
      refine lw_hth hS hP hM hO (vx_runSW (As := [.ref (ad 0), .int (nI k), .int v2, .ref ao]) (rest := []) ⟨hx, hb, hml, hown, hts⟩ (h_pointOf_t2 l D T ad I R ao hlt k v2 hk h2) (vx_cwSW 4 hts gL_law_L_pointOf rfl rfl rfl (by decide +kernel) ⟨Nat.le_of_ble_eq_true rfl, Nat.le_of_ble_eq_true rfl⟩) ⟨XN.blind, XN.pre hP hK hN hXU hXZ hNc hS rfl⟩ rfl rfl hl.1 rfl (lv_room (Nat.le_of_ble_eq_true rfl)) dL_law_910 ⟨hc1, hs1⟩) (fun H locs hP hO hM hS => ?_)
      refine lv_istore (lv' := [(5, .int 2), (0, .ref b), (1, .ref (ad 0)), (2, .ref (ad2 0)), (3, .ref ao), (4, .int (nI i))]) hx hb dL_law_913 hl (by decide) rfl (fun ls hl => ?_)
      refine lv_aload_n hx hb dL_law_915 rfl (lv_at hl 3 rfl) ?_
      refine lw_arg (q := 1) C0 hS (lv_at hl 1 rfl) (lv_at hl 5 rfl) (by omega) (by decide) dL_law_916 dL_law_917 dL_law_919 dL_law_920 dL_law_921 e1 ?_
      refine lw_arg (q := 2) C0 hS (lv_at hl 1 rfl) (lv_at hl 5 rfl) (by omega) (by decide) dL_law_922 dL_law_923 dL_law_925 dL_law_926 dL_law_927 e2 ?_
      refine lw_mi C0 hS hP hO (va_runV (As := [.int (nI k), .int v2]) (rest := []) ⟨hx, hb, hml, hown, hts⟩ (c_X4_pointOf_e2 l D T ad2 I2 R2 _ k v2 hAD2 hk h2) (cwV 2 hts gL_law_X4_pointOf rfl rfl rfl (by decide +kernel) ⟨Nat.le_of_ble_eq_true rfl, Nat.le_of_ble_eq_true rfl⟩) ⟨MB.blind, va_recv hK hM (ci := 4) (q0 := 0) rfl mw_0, MB.pre hM hK rfl⟩ rfl rfl hl.1 rfl (lv_room (Nat.le_of_ble_eq_true rfl)) dL_law_928 ⟨hc1, hs1⟩) (fun u2 H locs hu hP hO hM hS => ?_)
      refine lv_istore (lv' := [(6, .int _), (5, .int 2), (0, .ref b), (1, .ref (ad 0)), (2, .ref (ad2 0)), (3, .ref ao), (4, .int (nI i))]) hx hb dL_law_931 hl (by decide) rfl (fun ls hl => ?_)
      exact lw_tail C0 hS hP hM hO hl rfl (fun h => absurd h (by decide)) (st_same hJ rfl rfl (fun _ _ => rfl) (fun _ _ => rfl)) dL_law_933 dL_law_934 dL_law_937 dL_law_939 dL_law_944 dL_law_946 dL_law_949 dL_law_950 dL_law_951 dL_law_952 dL_law_954 dL_law_955 dL_law_956 dL_law_961 rfl (by omega) (by omega) hc1 hs1 kN
  · skip
    refine lw_hth hS hP hM hO (vx_runSW (As := [.ref (ad 0), .int v1, .int v2, .ref ao]) (rest := []) ⟨hx, hb, hml, hown, hts⟩ (h_pointOf_t1 l D T ad I R ao hlt v1 v2 h1) (vx_cwSW 4 hts gL_law_L_pointOf rfl rfl rfl (by decide +kernel) ⟨Nat.le_of_ble_eq_true rfl, Nat.le_of_ble_eq_true rfl⟩) ⟨XN.blind, XN.pre hP hK hN hXU hXZ hNc hS rfl⟩ rfl rfl hl.1 rfl (lv_room (Nat.le_of_ble_eq_true rfl)) dL_law_910 ⟨hc1, hs1⟩) (fun H locs hP hO hM hS => ?_)
    refine lv_istore (lv' := [(5, .int 1), (0, .ref b), (1, .ref (ad 0)), (2, .ref (ad2 0)), (3, .ref ao), (4, .int (nI i))]) hx hb dL_law_913 hl (by decide) rfl (fun ls hl => ?_)
    refine lv_aload_n hx hb dL_law_915 rfl (lv_at hl 3 rfl) ?_
    refine lw_arg (q := 1) C0 hS (lv_at hl 1 rfl) (lv_at hl 5 rfl) (by omega) (by decide) dL_law_916 dL_law_917 dL_law_919 dL_law_920 dL_law_921 e1 ?_
    refine lw_arg (q := 2) C0 hS (lv_at hl 1 rfl) (lv_at hl 5 rfl) (by omega) (by decide) dL_law_922 dL_law_923 dL_law_925 dL_law_926 dL_law_927 e2 ?_
    refine lw_mi C0 hS hP hO (va_runV (As := [.int v1, .int v2]) (rest := []) ⟨hx, hb, hml, hown, hts⟩ (c_X4_pointOf_e1 l D T ad2 I2 R2 _ v1 v2 hAD2 h1) (cwV 2 hts gL_law_X4_pointOf rfl rfl rfl (by decide +kernel) ⟨Nat.le_of_ble_eq_true rfl, Nat.le_of_ble_eq_true rfl⟩) ⟨MB.blind, va_recv hK hM (ci := 4) (q0 := 0) rfl mw_0, MB.pre hM hK rfl⟩ rfl rfl hl.1 rfl (lv_room (Nat.le_of_ble_eq_true rfl)) dL_law_928 ⟨hc1, hs1⟩) (fun u2 H locs hu hP hO hM hS => ?_)
    refine lv_istore (lv' := [(6, .int _), (5, .int 1), (0, .ref b), (1, .ref (ad 0)), (2, .ref (ad2 0)), (3, .ref ao), (4, .int (nI i))]) hx hb dL_law_931 hl (by decide) rfl (fun ls hl => ?_)
    exact lw_tail C0 hS hP hM hO hl rfl (fun h => absurd h (by decide)) (st_same hJ rfl rfl (fun _ _ => rfl) (fun _ _ => rfl)) dL_law_933 dL_law_934 dL_law_937 dL_law_939 dL_law_944 dL_law_946 dL_law_949 dL_law_950 dL_law_951 dL_law_952 dL_law_954 dL_law_955 dL_law_956 dL_law_961 rfl (by omega) (by omega) hc1 hs1 kN
set_option maxHeartbeats 4000000 in
set_option maxRecDepth 100000 in
theorem lc_count {p : Program} {l : Launch} {e : Env} {s : State} {m : MethodId} {args : Array Value} {below : List Frame} {meth : Method} {c : Code} {H : Heap} {locs : List Loc} {cells slots : Nat} {Q : State → Prop} {D : va_G} {T : Nat → ClassId} {ad ad2 : Nat → Nat} {ao : Nat} {b : Addr} {L : Nat} {xs : Nat → Int32} {ls : Array Slot} {i : Nat} (C0 : LwF p l s m c args D T ad ad2 ao b L xs) (J : LJ D T ad ad2 ao H) (hS : va_S (LwA s) s.heap H locs) (hl : lv_has ls 9 (lwLv b ad ad2 ao i)) (hi : i + 2 < L) (hc : cells + 1 ≤ 649774) (hs : slots + 6 ≤ 7146782) (kN : LwK p l e s m args below meth c Q D T ad ad2 ao b i cells slots) : W p l e room_1 s m args below meth c H locs cells slots Q (F0 m 964 ls []) := by
  have C1 := C0
  obtain ⟨hx, hb, hml, hown, hts, hK, hN, hXU, hXZ, hNc, hAD, hAD2, hap, hao, hao2, hge, hge2, hgo, hX, hbl, hlt, hL⟩ := C1
  obtain ⟨I, R, I2, R2, g, m9, nx, ct, ks, len, hP, hM, hO, hJ, hNm⟩ := lj_norm J
  have hc0 : cells + 0 ≤ room_1.cells := show cells + 0 ≤ 649774 by omega
  have hs0 : slots + 0 ≤ room_1.slots := show slots + 0 ≤ 7146782 by omega
  have hc1 : cells + 1 ≤ room_1.cells := hc
  have hs1 : slots + 6 ≤ room_1.slots := hs
  have hnx : nx < 6 := hJ.2.1.1
  have hct : ct ≤ 6 := hJ.2.1.2.1
  have hI1 : I 1 = nI nx := hJ.2.1.2.2.1
  have hI2 : I 2 = nI ct := hJ.2.1.2.2.2.1
  have hI21 : I2 1 = nI ct := hJ.2.2.1
  have hI4 : I 4 = nI m9 := hJ.1.1
  have hrl : RlW m9 (R2 0) := hJ.1.2.1
  have hm : m9 < 256 := hrl.1
  have hI5 : I 5 = R2 0 24 := hJ.1.2.2.1
  have hbd : BdA (R2 0) := hJ.1.2.2.2.2.2
  have hks : ks < 4 := hJ.2.2.2.1.1
  have hI0 : I 0 = nI ks := hJ.2.2.2.1.2.1
  have hTx : TxT (R2 4) len := hJ.2.2.2.2.1
  have hlen : len ≤ 60 := hTx.1
  have hI3 : I 3 = nI len := hJ.2.2.2.2.2.1
  have hI22 : I2 2 = nI len := hJ.2.2.2.2.2.2.1
  have n0 : R 0 = R2 0 := hNm.1
  have n1 : R 1 = qz (R2 0) := hNm.2.1
  have n18 : R 18 = R2 4 := hNm.2.2
  obtain ⟨v1, e1⟩ : ∃ v, xs (i + 1) = v := ⟨_, rfl⟩
  refine lv_aload_n hx hb dL_law_964 rfl (lv_at hl 1 rfl) ?_
  refine lw_arg (q := 1) C0 hS (lv_at hl 0 rfl) (lv_at hl 4 rfl) (by omega) (by decide) dL_law_965 dL_law_966 dL_law_968 dL_law_969 dL_law_970 e1 ?_
  refine lv_aload_n hx hb dL_law_971 rfl (lv_at hl 3 rfl) ?_
  rcases out_01 v1 0 8 with h1 | h1
  · obtain ⟨w, hw, rfl⟩ := out_nat (n := 8) (by decide) h1
    refine lw_hok C0 hS hM (vx_runSW (As := [.ref (ad 0), .int (nI w), .ref ao]) (rest := []) ⟨hx, hb, hml, hown, hts⟩ (h_count l D T ad I R _ ao g m9 w hAD hm hI4 hw hao) (vx_cwSW 3 hts gL_law_L_count rfl rfl rfl (by decide +kernel) ⟨Nat.le_of_ble_eq_true rfl, Nat.le_of_ble_eq_true rfl⟩) ⟨HB.blind, HB.pre hP hO hK hN rfl⟩ rfl rfl hl.1 rfl (lv_room (Nat.le_of_ble_eq_true rfl)) dL_law_972 ⟨hc0, hs0⟩) (fun u1 H locs hP hO hM hS => ?_)
    refine lv_istore (lv' := [(5, .int 0), (0, .ref b), (1, .ref (ad 0)), (2, .ref (ad2 0)), (3, .ref ao), (4, .int (nI i))]) hx hb dL_law_975 hl (by decide) rfl (fun ls hl => ?_)
    refine lv_aload_n hx hb dL_law_977 rfl (lv_at hl 3 rfl) ?_
    refine lw_arg (q := 1) C0 hS (lv_at hl 1 rfl) (lv_at hl 5 rfl) (by omega) (by decide) dL_law_978 dL_law_979 dL_law_981 dL_law_982 dL_law_983 e1 ?_
    refine lw_mi C0 hS hP hO (va_runV (As := [.int (nI w)]) (rest := []) ⟨hx, hb, hml, hown, hts⟩ (c_X4_count l D T ad2 I2 R2 _ w hAD2 hw) (cwV 1 hts gL_law_X4_count rfl rfl rfl (by decide +kernel) ⟨Nat.le_of_ble_eq_true rfl, Nat.le_of_ble_eq_true rfl⟩) ⟨MB.blind, va_recv hK hM (ci := 4) (q0 := 0) rfl mw_0, MB.pre hM hK rfl⟩ rfl rfl hl.1 rfl (lv_room (Nat.le_of_ble_eq_true rfl)) dL_law_984 ⟨hc0, hs0⟩) (fun u2 H locs hu hP hO hM hS => ?_)
    refine lv_istore (lv' := [(6, .int _), (5, .int 0), (0, .ref b), (1, .ref (ad 0)), (2, .ref (ad2 0)), (3, .ref ao), (4, .int (nI i))]) hx hb dL_law_987 hl (by decide) rfl (fun ls hl => ?_)
    exact lw_tail C0 hS hP hM hO hl rfl (fun _ => upL_0.trans (congrArg Int32.toInt64 (by rw [n0, n1, hI5, hI2, hI21]; exact rl_cn hrl hbd (nI ct) w))) (st_same hJ rfl rfl (fun _ _ => rfl) (fun _ _ => rfl)) dL_law_989 dL_law_990 dL_law_993 dL_law_995 dL_law_1000 dL_law_1002 dL_law_1005 dL_law_1006 dL_law_1007 dL_law_1008 dL_law_1010 dL_law_1011 dL_law_1012 dL_law_1017 rfl (by omega) (by omega) hc0 hs0 kN
  · skip
    refine lw_hth hS hP hM hO (vx_runSW (As := [.ref (ad 0), .int v1, .ref ao]) (rest := []) ⟨hx, hb, hml, hown, hts⟩ (h_count_t1 l D T ad I R ao hlt v1 h1) (vx_cwSW 3 hts gL_law_L_count rfl rfl rfl (by decide +kernel) ⟨Nat.le_of_ble_eq_true rfl, Nat.le_of_ble_eq_true rfl⟩) ⟨XN.blind, XN.pre hP hK hN hXU hXZ hNc hS rfl⟩ rfl rfl hl.1 rfl (lv_room (Nat.le_of_ble_eq_true rfl)) dL_law_972 ⟨hc1, hs1⟩) (fun H locs hP hO hM hS => ?_)
    refine lv_istore (lv' := [(5, .int 1), (0, .ref b), (1, .ref (ad 0)), (2, .ref (ad2 0)), (3, .ref ao), (4, .int (nI i))]) hx hb dL_law_975 hl (by decide) rfl (fun ls hl => ?_)
    refine lv_aload_n hx hb dL_law_977 rfl (lv_at hl 3 rfl) ?_
    refine lw_arg (q := 1) C0 hS (lv_at hl 1 rfl) (lv_at hl 5 rfl) (by omega) (by decide) dL_law_978 dL_law_979 dL_law_981 dL_law_982 dL_law_983 e1 ?_
    refine lw_mi C0 hS hP hO (va_runV (As := [.int v1]) (rest := []) ⟨hx, hb, hml, hown, hts⟩ (c_X4_count_e1 l D T ad2 I2 R2 _ v1 hAD2 h1) (cwV 1 hts gL_law_X4_count rfl rfl rfl (by decide +kernel) ⟨Nat.le_of_ble_eq_true rfl, Nat.le_of_ble_eq_true rfl⟩) ⟨MB.blind, va_recv hK hM (ci := 4) (q0 := 0) rfl mw_0, MB.pre hM hK rfl⟩ rfl rfl hl.1 rfl (lv_room (Nat.le_of_ble_eq_true rfl)) dL_law_984 ⟨hc1, hs1⟩) (fun u2 H locs hu hP hO hM hS => ?_)
    refine lv_istore (lv' := [(6, .int _), (5, .int 1), (0, .ref b), (1, .ref (ad 0)), (2, .ref (ad2 0)), (3, .ref ao), (4, .int (nI i))]) hx hb dL_law_987 hl (by decide) rfl (fun ls hl => ?_)
    exact lw_tail C0 hS hP hM hO hl rfl (fun h => absurd h (by decide)) (st_same hJ rfl rfl (fun _ _ => rfl) (fun _ _ => rfl)) dL_law_989 dL_law_990 dL_law_993 dL_law_995 dL_law_1000 dL_law_1002 dL_law_1005 dL_law_1006 dL_law_1007 dL_law_1008 dL_law_1010 dL_law_1011 dL_law_1012 dL_law_1017 rfl (by omega) (by omega) hc1 hs1 kN
set_option maxHeartbeats 4000000 in
set_option maxRecDepth 100000 in
theorem lc_findLost {p : Program} {l : Launch} {e : Env} {s : State} {m : MethodId} {args : Array Value} {below : List Frame} {meth : Method} {c : Code} {H : Heap} {locs : List Loc} {cells slots : Nat} {Q : State → Prop} {D : va_G} {T : Nat → ClassId} {ad ad2 : Nat → Nat} {ao : Nat} {b : Addr} {L : Nat} {xs : Nat → Int32} {ls : Array Slot} {i : Nat} (C0 : LwF p l s m c args D T ad ad2 ao b L xs) (J : LJ D T ad ad2 ao H) (hS : va_S (LwA s) s.heap H locs) (hl : lv_has ls 9 (lwLv b ad ad2 ao i)) (hi : i + 2 < L) (hc : cells + 1 ≤ 649774) (hs : slots + 6 ≤ 7146782) (kN : LwK p l e s m args below meth c Q D T ad ad2 ao b i cells slots) : W p l e room_1 s m args below meth c H locs cells slots Q (F0 m 1020 ls []) := by
  have C1 := C0
  obtain ⟨hx, hb, hml, hown, hts, hK, hN, hXU, hXZ, hNc, hAD, hAD2, hap, hao, hao2, hge, hge2, hgo, hX, hbl, hlt, hL⟩ := C1
  obtain ⟨I, R, I2, R2, g, m9, nx, ct, ks, len, hP, hM, hO, hJ, hNm⟩ := lj_norm J
  have hc0 : cells + 0 ≤ room_1.cells := show cells + 0 ≤ 649774 by omega
  have hs0 : slots + 0 ≤ room_1.slots := show slots + 0 ≤ 7146782 by omega
  have hc1 : cells + 1 ≤ room_1.cells := hc
  have hs1 : slots + 6 ≤ room_1.slots := hs
  have hnx : nx < 6 := hJ.2.1.1
  have hct : ct ≤ 6 := hJ.2.1.2.1
  have hI1 : I 1 = nI nx := hJ.2.1.2.2.1
  have hI2 : I 2 = nI ct := hJ.2.1.2.2.2.1
  have hI21 : I2 1 = nI ct := hJ.2.2.1
  have hI4 : I 4 = nI m9 := hJ.1.1
  have hrl : RlW m9 (R2 0) := hJ.1.2.1
  have hm : m9 < 256 := hrl.1
  have hI5 : I 5 = R2 0 24 := hJ.1.2.2.1
  have hbd : BdA (R2 0) := hJ.1.2.2.2.2.2
  have hks : ks < 4 := hJ.2.2.2.1.1
  have hI0 : I 0 = nI ks := hJ.2.2.2.1.2.1
  have hTx : TxT (R2 4) len := hJ.2.2.2.2.1
  have hlen : len ≤ 60 := hTx.1
  have hI3 : I 3 = nI len := hJ.2.2.2.2.2.1
  have hI22 : I2 2 = nI len := hJ.2.2.2.2.2.2.1
  have n0 : R 0 = R2 0 := hNm.1
  have n1 : R 1 = qz (R2 0) := hNm.2.1
  have n18 : R 18 = R2 4 := hNm.2.2
  refine lv_aload_n hx hb dL_law_1020 rfl (lv_at hl 1 rfl) ?_
  refine lw_ri hS hP hM hO (va_runV (As := []) (rest := []) ⟨hx, hb, hml, hown, hts⟩ (c_X3_findLost l D T ad I R m9 hm hI4) (cwV 0 hts gL_law_X3_findLost rfl rfl rfl (by decide +kernel) ⟨Nat.le_of_ble_eq_true rfl, Nat.le_of_ble_eq_true rfl⟩) ⟨CR.blind, va_recv hK hP (ci := 3) (q0 := 0) rfl cw_0, CR.pre hP hK hN rfl⟩ rfl rfl hl.1 rfl (lv_room (Nat.le_of_ble_eq_true rfl)) dL_law_1021 ⟨hc0, hs0⟩) (fun H locs hP hO hM hS => ?_)
  refine lv_aload_n hx hb dL_law_1024 rfl (lv_at hl 2 rfl) ?_
  refine lw_mi C0 hS hP hO (va_runV (As := []) (rest := [_]) ⟨hx, hb, hml, hown, hts⟩ (c_X4_findLost l D T ad2 I2 R2 _ hAD2) (cwV 0 hts gL_law_X4_findLost rfl rfl rfl (by decide +kernel) ⟨Nat.le_of_ble_eq_true rfl, Nat.le_of_ble_eq_true rfl⟩) ⟨MB.blind, va_recv hK hM (ci := 4) (q0 := 0) rfl mw_0, MB.pre hM hK rfl⟩ rfl rfl hl.1 rfl (lv_room (Nat.le_of_ble_eq_true rfl)) dL_law_1025 ⟨hc0, hs0⟩) (fun u2 H locs hu hP hO hM hS => ?_)
  have hE : flF (diF (R 1) (dr (R 0) m9)) = flF (diF (qz (R2 0)) (us (R2 0))) := by rw [n0, n1]; exact rl_fl hrl
  refine lv_icmp_eq (tgt := 1237) hx hb dL_law_1028 (by decide) (fun _ => ?_) (fun h => absurd hE h)
  exact kN H locs ls _ _ ⟨_, _, _, _, g, _, _, _, _, _, hP, hM, hO, (st_same hJ rfl rfl (fun _ _ => rfl) (fun _ _ => rfl))⟩ hS hl (by omega) (by omega)
set_option maxHeartbeats 4000000 in
set_option maxRecDepth 100000 in
theorem lc_enough {p : Program} {l : Launch} {e : Env} {s : State} {m : MethodId} {args : Array Value} {below : List Frame} {meth : Method} {c : Code} {H : Heap} {locs : List Loc} {cells slots : Nat} {Q : State → Prop} {D : va_G} {T : Nat → ClassId} {ad ad2 : Nat → Nat} {ao : Nat} {b : Addr} {L : Nat} {xs : Nat → Int32} {ls : Array Slot} {i : Nat} (C0 : LwF p l s m c args D T ad ad2 ao b L xs) (J : LJ D T ad ad2 ao H) (hS : va_S (LwA s) s.heap H locs) (hl : lv_has ls 9 (lwLv b ad ad2 ao i)) (hi : i + 2 < L) (hc : cells + 1 ≤ 649774) (hs : slots + 6 ≤ 7146782) (kN : LwK p l e s m args below meth c Q D T ad ad2 ao b i cells slots) : W p l e room_1 s m args below meth c H locs cells slots Q (F0 m 1033 ls []) := by
  have C1 := C0
  obtain ⟨hx, hb, hml, hown, hts, hK, hN, hXU, hXZ, hNc, hAD, hAD2, hap, hao, hao2, hge, hge2, hgo, hX, hbl, hlt, hL⟩ := C1
  obtain ⟨I, R, I2, R2, g, m9, nx, ct, ks, len, hP, hM, hO, hJ, hNm⟩ := lj_norm J
  have hc0 : cells + 0 ≤ room_1.cells := show cells + 0 ≤ 649774 by omega
  have hs0 : slots + 0 ≤ room_1.slots := show slots + 0 ≤ 7146782 by omega
  have hc1 : cells + 1 ≤ room_1.cells := hc
  have hs1 : slots + 6 ≤ room_1.slots := hs
  have hnx : nx < 6 := hJ.2.1.1
  have hct : ct ≤ 6 := hJ.2.1.2.1
  have hI1 : I 1 = nI nx := hJ.2.1.2.2.1
  have hI2 : I 2 = nI ct := hJ.2.1.2.2.2.1
  have hI21 : I2 1 = nI ct := hJ.2.2.1
  have hI4 : I 4 = nI m9 := hJ.1.1
  have hrl : RlW m9 (R2 0) := hJ.1.2.1
  have hm : m9 < 256 := hrl.1
  have hI5 : I 5 = R2 0 24 := hJ.1.2.2.1
  have hbd : BdA (R2 0) := hJ.1.2.2.2.2.2
  have hks : ks < 4 := hJ.2.2.2.1.1
  have hI0 : I 0 = nI ks := hJ.2.2.2.1.2.1
  have hTx : TxT (R2 4) len := hJ.2.2.2.2.1
  have hlen : len ≤ 60 := hTx.1
  have hI3 : I 3 = nI len := hJ.2.2.2.2.2.1
  have hI22 : I2 2 = nI len := hJ.2.2.2.2.2.2.1
  have n0 : R 0 = R2 0 := hNm.1
  have n1 : R 1 = qz (R2 0) := hNm.2.1
  have n18 : R 18 = R2 4 := hNm.2.2
  obtain ⟨v1, e1⟩ : ∃ v, xs (i + 1) = v := ⟨_, rfl⟩
  obtain ⟨v2, e2⟩ : ∃ v, xs (i + 2) = v := ⟨_, rfl⟩
  refine lv_aload_n hx hb dL_law_1033 rfl (lv_at hl 1 rfl) ?_
  refine lw_arg (q := 1) C0 hS (lv_at hl 0 rfl) (lv_at hl 4 rfl) (by omega) (by decide) dL_law_1034 dL_law_1035 dL_law_1037 dL_law_1038 dL_law_1039 e1 ?_
  refine lw_arg (q := 2) C0 hS (lv_at hl 0 rfl) (lv_at hl 4 rfl) (by omega) (by decide) dL_law_1040 dL_law_1041 dL_law_1043 dL_law_1044 dL_law_1045 e2 ?_
  refine lv_aload_n hx hb dL_law_1046 rfl (lv_at hl 3 rfl) ?_
  rcases out_01 v1 0 9999999 with h1 | h1
  · rcases out_01 v2 0 1 with h2 | h2
    · obtain ⟨w, hw, rfl⟩ := out_nat (n := 1) (by decide) h2
      refine lw_hok C0 hS hM (vx_runSW (As := [.ref (ad 0), .int v1, .int (nI w), .ref ao]) (rest := []) ⟨hx, hb, hml, hown, hts⟩ (h_enough l D T ad I R _ ao g m9 v1 w hAD hm hI4 h1 hw hao) (vx_cwSW 4 hts gL_law_L_enough rfl rfl rfl (by decide +kernel) ⟨Nat.le_of_ble_eq_true rfl, Nat.le_of_ble_eq_true rfl⟩) ⟨HB.blind, HB.pre hP hO hK hN rfl⟩ rfl rfl hl.1 rfl (lv_room (Nat.le_of_ble_eq_true rfl)) dL_law_1047 ⟨hc0, hs0⟩) (fun u1 H locs hP hO hM hS => ?_)
      refine lv_istore (lv' := [(5, .int 0), (0, .ref b), (1, .ref (ad 0)), (2, .ref (ad2 0)), (3, .ref ao), (4, .int (nI i))]) hx hb dL_law_1050 hl (by decide) rfl (fun ls hl => ?_)
      refine lv_aload_n hx hb dL_law_1052 rfl (lv_at hl 3 rfl) ?_
      refine lw_arg (q := 1) C0 hS (lv_at hl 1 rfl) (lv_at hl 5 rfl) (by omega) (by decide) dL_law_1053 dL_law_1054 dL_law_1056 dL_law_1057 dL_law_1058 e1 ?_
      refine lw_arg (q := 2) C0 hS (lv_at hl 1 rfl) (lv_at hl 5 rfl) (by omega) (by decide) dL_law_1059 dL_law_1060 dL_law_1062 dL_law_1063 dL_law_1064 e2 ?_
      refine lw_mi C0 hS hP hO (va_runV (As := [.int v1, .int (nI w)]) (rest := []) ⟨hx, hb, hml, hown, hts⟩ (c_X4_enough l D T ad2 I2 R2 _ v1 w hAD2 h1 hw) (cwV 2 hts gL_law_X4_enough rfl rfl rfl (by decide +kernel) ⟨Nat.le_of_ble_eq_true rfl, Nat.le_of_ble_eq_true rfl⟩) ⟨MB.blind, va_recv hK hM (ci := 4) (q0 := 0) rfl mw_0, MB.pre hM hK rfl⟩ rfl rfl hl.1 rfl (lv_room (Nat.le_of_ble_eq_true rfl)) dL_law_1065 ⟨hc0, hs0⟩) (fun u2 H locs hu hP hO hM hS => ?_)
      refine lv_istore (lv' := [(6, .int _), (5, .int 0), (0, .ref b), (1, .ref (ad 0)), (2, .ref (ad2 0)), (3, .ref ao), (4, .int (nI i))]) hx hb dL_law_1068 hl (by decide) rfl (fun ls hl => ?_)
      exact lw_tail C0 hS hP hM hO hl rfl (fun _ => upL_0.trans (congrArg Int32.toInt64 (by rw [n0]; exact rl_fe hrl hbd v1 (out_le h1).1 (out_le h1).2 w hw))) (st_same hJ rfl rfl (fun j hj => ur_ne (by omega)) (fun j hj => ur_ne (by omega))) dL_law_1070 dL_law_1071 dL_law_1074 dL_law_1076 dL_law_1081 dL_law_1083 dL_law_1086 dL_law_1087 dL_law_1088 dL_law_1089 dL_law_1091 dL_law_1092 dL_law_1093 dL_law_1098 rfl (by omega) (by omega) hc0 hs0 kN
    · skip
      refine lw_hth hS hP hM hO (vx_runSW (As := [.ref (ad 0), .int v1, .int v2, .ref ao]) (rest := []) ⟨hx, hb, hml, hown, hts⟩ (h_enough_t2 l D T ad I R ao hlt v1 v2 h1 h2) (vx_cwSW 4 hts gL_law_L_enough rfl rfl rfl (by decide +kernel) ⟨Nat.le_of_ble_eq_true rfl, Nat.le_of_ble_eq_true rfl⟩) ⟨XN.blind, XN.pre hP hK hN hXU hXZ hNc hS rfl⟩ rfl rfl hl.1 rfl (lv_room (Nat.le_of_ble_eq_true rfl)) dL_law_1047 ⟨hc1, hs1⟩) (fun H locs hP hO hM hS => ?_)
      refine lv_istore (lv' := [(5, .int 1), (0, .ref b), (1, .ref (ad 0)), (2, .ref (ad2 0)), (3, .ref ao), (4, .int (nI i))]) hx hb dL_law_1050 hl (by decide) rfl (fun ls hl => ?_)
      refine lv_aload_n hx hb dL_law_1052 rfl (lv_at hl 3 rfl) ?_
      refine lw_arg (q := 1) C0 hS (lv_at hl 1 rfl) (lv_at hl 5 rfl) (by omega) (by decide) dL_law_1053 dL_law_1054 dL_law_1056 dL_law_1057 dL_law_1058 e1 ?_
      refine lw_arg (q := 2) C0 hS (lv_at hl 1 rfl) (lv_at hl 5 rfl) (by omega) (by decide) dL_law_1059 dL_law_1060 dL_law_1062 dL_law_1063 dL_law_1064 e2 ?_
      refine lw_mi C0 hS hP hO (va_runV (As := [.int v1, .int v2]) (rest := []) ⟨hx, hb, hml, hown, hts⟩ (c_X4_enough_e2 l D T ad2 I2 R2 _ v1 v2 hAD2 h1 h2) (cwV 2 hts gL_law_X4_enough rfl rfl rfl (by decide +kernel) ⟨Nat.le_of_ble_eq_true rfl, Nat.le_of_ble_eq_true rfl⟩) ⟨MB.blind, va_recv hK hM (ci := 4) (q0 := 0) rfl mw_0, MB.pre hM hK rfl⟩ rfl rfl hl.1 rfl (lv_room (Nat.le_of_ble_eq_true rfl)) dL_law_1065 ⟨hc1, hs1⟩) (fun u2 H locs hu hP hO hM hS => ?_)
      refine lv_istore (lv' := [(6, .int _), (5, .int 1), (0, .ref b), (1, .ref (ad 0)), (2, .ref (ad2 0)), (3, .ref ao), (4, .int (nI i))]) hx hb dL_law_1068 hl (by decide) rfl (fun ls hl => ?_)
      exact lw_tail C0 hS hP hM hO hl rfl (fun h => absurd h (by decide)) (st_same hJ rfl rfl (fun _ _ => rfl) (fun _ _ => rfl)) dL_law_1070 dL_law_1071 dL_law_1074 dL_law_1076 dL_law_1081 dL_law_1083 dL_law_1086 dL_law_1087 dL_law_1088 dL_law_1089 dL_law_1091 dL_law_1092 dL_law_1093 dL_law_1098 rfl (by omega) (by omega) hc1 hs1 kN
  · skip
    refine lw_hth hS hP hM hO (vx_runSW (As := [.ref (ad 0), .int v1, .int v2, .ref ao]) (rest := []) ⟨hx, hb, hml, hown, hts⟩ (h_enough_t1 l D T ad I R ao hlt v1 v2 h1) (vx_cwSW 4 hts gL_law_L_enough rfl rfl rfl (by decide +kernel) ⟨Nat.le_of_ble_eq_true rfl, Nat.le_of_ble_eq_true rfl⟩) ⟨XN.blind, XN.pre hP hK hN hXU hXZ hNc hS rfl⟩ rfl rfl hl.1 rfl (lv_room (Nat.le_of_ble_eq_true rfl)) dL_law_1047 ⟨hc1, hs1⟩) (fun H locs hP hO hM hS => ?_)
    refine lv_istore (lv' := [(5, .int 1), (0, .ref b), (1, .ref (ad 0)), (2, .ref (ad2 0)), (3, .ref ao), (4, .int (nI i))]) hx hb dL_law_1050 hl (by decide) rfl (fun ls hl => ?_)
    refine lv_aload_n hx hb dL_law_1052 rfl (lv_at hl 3 rfl) ?_
    refine lw_arg (q := 1) C0 hS (lv_at hl 1 rfl) (lv_at hl 5 rfl) (by omega) (by decide) dL_law_1053 dL_law_1054 dL_law_1056 dL_law_1057 dL_law_1058 e1 ?_
    refine lw_arg (q := 2) C0 hS (lv_at hl 1 rfl) (lv_at hl 5 rfl) (by omega) (by decide) dL_law_1059 dL_law_1060 dL_law_1062 dL_law_1063 dL_law_1064 e2 ?_
    refine lw_mi C0 hS hP hO (va_runV (As := [.int v1, .int v2]) (rest := []) ⟨hx, hb, hml, hown, hts⟩ (c_X4_enough_e1 l D T ad2 I2 R2 _ v1 v2 hAD2 h1) (cwV 2 hts gL_law_X4_enough rfl rfl rfl (by decide +kernel) ⟨Nat.le_of_ble_eq_true rfl, Nat.le_of_ble_eq_true rfl⟩) ⟨MB.blind, va_recv hK hM (ci := 4) (q0 := 0) rfl mw_0, MB.pre hM hK rfl⟩ rfl rfl hl.1 rfl (lv_room (Nat.le_of_ble_eq_true rfl)) dL_law_1065 ⟨hc1, hs1⟩) (fun u2 H locs hu hP hO hM hS => ?_)
    refine lv_istore (lv' := [(6, .int _), (5, .int 1), (0, .ref b), (1, .ref (ad 0)), (2, .ref (ad2 0)), (3, .ref ao), (4, .int (nI i))]) hx hb dL_law_1068 hl (by decide) rfl (fun ls hl => ?_)
    exact lw_tail C0 hS hP hM hO hl rfl (fun h => absurd h (by decide)) (st_same hJ rfl rfl (fun _ _ => rfl) (fun _ _ => rfl)) dL_law_1070 dL_law_1071 dL_law_1074 dL_law_1076 dL_law_1081 dL_law_1083 dL_law_1086 dL_law_1087 dL_law_1088 dL_law_1089 dL_law_1091 dL_law_1092 dL_law_1093 dL_law_1098 rfl (by omega) (by omega) hc1 hs1 kN
set_option maxHeartbeats 4000000 in
set_option maxRecDepth 100000 in
theorem lc_ifTurned {p : Program} {l : Launch} {e : Env} {s : State} {m : MethodId} {args : Array Value} {below : List Frame} {meth : Method} {c : Code} {H : Heap} {locs : List Loc} {cells slots : Nat} {Q : State → Prop} {D : va_G} {T : Nat → ClassId} {ad ad2 : Nat → Nat} {ao : Nat} {b : Addr} {L : Nat} {xs : Nat → Int32} {ls : Array Slot} {i : Nat} (C0 : LwF p l s m c args D T ad ad2 ao b L xs) (J : LJ D T ad ad2 ao H) (hS : va_S (LwA s) s.heap H locs) (hl : lv_has ls 9 (lwLv b ad ad2 ao i)) (hi : i + 2 < L) (hc : cells + 1 ≤ 649774) (hs : slots + 6 ≤ 7146782) (kN : LwK p l e s m args below meth c Q D T ad ad2 ao b i cells slots) : W p l e room_1 s m args below meth c H locs cells slots Q (F0 m 1101 ls []) := by
  have C1 := C0
  obtain ⟨hx, hb, hml, hown, hts, hK, hN, hXU, hXZ, hNc, hAD, hAD2, hap, hao, hao2, hge, hge2, hgo, hX, hbl, hlt, hL⟩ := C1
  obtain ⟨I, R, I2, R2, g, m9, nx, ct, ks, len, hP, hM, hO, hJ, hNm⟩ := lj_norm J
  have hc0 : cells + 0 ≤ room_1.cells := show cells + 0 ≤ 649774 by omega
  have hs0 : slots + 0 ≤ room_1.slots := show slots + 0 ≤ 7146782 by omega
  have hc1 : cells + 1 ≤ room_1.cells := hc
  have hs1 : slots + 6 ≤ room_1.slots := hs
  have hnx : nx < 6 := hJ.2.1.1
  have hct : ct ≤ 6 := hJ.2.1.2.1
  have hI1 : I 1 = nI nx := hJ.2.1.2.2.1
  have hI2 : I 2 = nI ct := hJ.2.1.2.2.2.1
  have hI21 : I2 1 = nI ct := hJ.2.2.1
  have hI4 : I 4 = nI m9 := hJ.1.1
  have hrl : RlW m9 (R2 0) := hJ.1.2.1
  have hm : m9 < 256 := hrl.1
  have hI5 : I 5 = R2 0 24 := hJ.1.2.2.1
  have hbd : BdA (R2 0) := hJ.1.2.2.2.2.2
  have hks : ks < 4 := hJ.2.2.2.1.1
  have hI0 : I 0 = nI ks := hJ.2.2.2.1.2.1
  have hTx : TxT (R2 4) len := hJ.2.2.2.2.1
  have hlen : len ≤ 60 := hTx.1
  have hI3 : I 3 = nI len := hJ.2.2.2.2.2.1
  have hI22 : I2 2 = nI len := hJ.2.2.2.2.2.2.1
  have n0 : R 0 = R2 0 := hNm.1
  have n1 : R 1 = qz (R2 0) := hNm.2.1
  have n18 : R 18 = R2 4 := hNm.2.2
  obtain ⟨v1, e1⟩ : ∃ v, xs (i + 1) = v := ⟨_, rfl⟩
  obtain ⟨v2, e2⟩ : ∃ v, xs (i + 2) = v := ⟨_, rfl⟩
  refine lv_aload_n hx hb dL_law_1101 rfl (lv_at hl 1 rfl) ?_
  refine lw_arg (q := 1) C0 hS (lv_at hl 0 rfl) (lv_at hl 4 rfl) (by omega) (by decide) dL_law_1102 dL_law_1103 dL_law_1105 dL_law_1106 dL_law_1107 e1 ?_
  refine lw_arg (q := 2) C0 hS (lv_at hl 0 rfl) (lv_at hl 4 rfl) (by omega) (by decide) dL_law_1108 dL_law_1109 dL_law_1111 dL_law_1112 dL_law_1113 e2 ?_
  refine lv_aload_n hx hb dL_law_1114 rfl (lv_at hl 3 rfl) ?_
  rcases out_01 v2 0 7 with h1 | h1
  · obtain ⟨k, hk, rfl⟩ := out_nat (n := 7) (by decide) h1
    rcases out_01 v1 0 7 with h2 | h2
    · obtain ⟨w, hw, rfl⟩ := out_nat (n := 7) (by decide) h2
      refine lw_hok C0 hS hM (vx_runSW (As := [.ref (ad 0), .int (nI w), .int (nI k), .ref ao]) (rest := []) ⟨hx, hb, hml, hown, hts⟩ (h_ifTurned l D T ad I R _ ao g m9 w k hAD hm hI4 hw hk hao) (vx_cwSW 4 hts gL_law_L_ifTurned rfl rfl rfl (by decide +kernel) ⟨Nat.le_of_ble_eq_true rfl, Nat.le_of_ble_eq_true rfl⟩) ⟨HB.blind, HB.pre hP hO hK hN rfl⟩ rfl rfl hl.1 rfl (lv_room (Nat.le_of_ble_eq_true rfl)) dL_law_1115 ⟨hc0, hs0⟩) (fun u1 H locs hP hO hM hS => ?_)
      refine lv_istore (lv' := [(5, .int 0), (0, .ref b), (1, .ref (ad 0)), (2, .ref (ad2 0)), (3, .ref ao), (4, .int (nI i))]) hx hb dL_law_1118 hl (by decide) rfl (fun ls hl => ?_)
      refine lv_aload_n hx hb dL_law_1120 rfl (lv_at hl 3 rfl) ?_
      refine lw_arg (q := 1) C0 hS (lv_at hl 1 rfl) (lv_at hl 5 rfl) (by omega) (by decide) dL_law_1121 dL_law_1122 dL_law_1124 dL_law_1125 dL_law_1126 e1 ?_
      refine lw_arg (q := 2) C0 hS (lv_at hl 1 rfl) (lv_at hl 5 rfl) (by omega) (by decide) dL_law_1127 dL_law_1128 dL_law_1130 dL_law_1131 dL_law_1132 e2 ?_
      refine lw_mi C0 hS hP hO (va_runV (As := [.int (nI w), .int (nI k)]) (rest := []) ⟨hx, hb, hml, hown, hts⟩ (c_X4_ifTurned l D T ad2 I2 R2 _ w k hAD2 hw hk) (cwV 2 hts gL_law_X4_ifTurned rfl rfl rfl (by decide +kernel) ⟨Nat.le_of_ble_eq_true rfl, Nat.le_of_ble_eq_true rfl⟩) ⟨MB.blind, va_recv hK hM (ci := 4) (q0 := 0) rfl mw_0, MB.pre hM hK rfl⟩ rfl rfl hl.1 rfl (lv_room (Nat.le_of_ble_eq_true rfl)) dL_law_1133 ⟨hc0, hs0⟩) (fun u2 H locs hu hP hO hM hS => ?_)
      refine lv_istore (lv' := [(6, .int _), (5, .int 0), (0, .ref b), (1, .ref (ad 0)), (2, .ref (ad2 0)), (3, .ref ao), (4, .int (nI i))]) hx hb dL_law_1136 hl (by decide) rfl (fun ls hl => ?_)
      exact lw_tail C0 hS hP hM hO hl rfl (fun _ => upL_0.trans (congrArg Int32.toInt64 (by rw [n0]; exact rl_tr hrl _))) (st_same hJ rfl rfl (fun _ _ => rfl) (fun _ _ => rfl)) dL_law_1138 dL_law_1139 dL_law_1142 dL_law_1144 dL_law_1149 dL_law_1151 dL_law_1154 dL_law_1155 dL_law_1156 dL_law_1157 dL_law_1159 dL_law_1160 dL_law_1161 dL_law_1166 rfl (by omega) (by omega) hc0 hs0 kN
    · skip
      refine lw_hth hS hP hM hO (vx_runSW (As := [.ref (ad 0), .int v1, .int (nI k), .ref ao]) (rest := []) ⟨hx, hb, hml, hown, hts⟩ (h_ifTurned_t2 l D T ad I R ao hlt v1 k hk h2) (vx_cwSW 4 hts gL_law_L_ifTurned rfl rfl rfl (by decide +kernel) ⟨Nat.le_of_ble_eq_true rfl, Nat.le_of_ble_eq_true rfl⟩) ⟨XN.blind, XN.pre hP hK hN hXU hXZ hNc hS rfl⟩ rfl rfl hl.1 rfl (lv_room (Nat.le_of_ble_eq_true rfl)) dL_law_1115 ⟨hc1, hs1⟩) (fun H locs hP hO hM hS => ?_)
      refine lv_istore (lv' := [(5, .int 2), (0, .ref b), (1, .ref (ad 0)), (2, .ref (ad2 0)), (3, .ref ao), (4, .int (nI i))]) hx hb dL_law_1118 hl (by decide) rfl (fun ls hl => ?_)
      refine lv_aload_n hx hb dL_law_1120 rfl (lv_at hl 3 rfl) ?_
      refine lw_arg (q := 1) C0 hS (lv_at hl 1 rfl) (lv_at hl 5 rfl) (by omega) (by decide) dL_law_1121 dL_law_1122 dL_law_1124 dL_law_1125 dL_law_1126 e1 ?_
      refine lw_arg (q := 2) C0 hS (lv_at hl 1 rfl) (lv_at hl 5 rfl) (by omega) (by decide) dL_law_1127 dL_law_1128 dL_law_1130 dL_law_1131 dL_law_1132 e2 ?_
      refine lw_mi C0 hS hP hO (va_runV (As := [.int v1, .int (nI k)]) (rest := []) ⟨hx, hb, hml, hown, hts⟩ (c_X4_ifTurned_e2 l D T ad2 I2 R2 _ v1 k hAD2 hk h2) (cwV 2 hts gL_law_X4_ifTurned rfl rfl rfl (by decide +kernel) ⟨Nat.le_of_ble_eq_true rfl, Nat.le_of_ble_eq_true rfl⟩) ⟨MB.blind, va_recv hK hM (ci := 4) (q0 := 0) rfl mw_0, MB.pre hM hK rfl⟩ rfl rfl hl.1 rfl (lv_room (Nat.le_of_ble_eq_true rfl)) dL_law_1133 ⟨hc1, hs1⟩) (fun u2 H locs hu hP hO hM hS => ?_)
      refine lv_istore (lv' := [(6, .int _), (5, .int 2), (0, .ref b), (1, .ref (ad 0)), (2, .ref (ad2 0)), (3, .ref ao), (4, .int (nI i))]) hx hb dL_law_1136 hl (by decide) rfl (fun ls hl => ?_)
      exact lw_tail C0 hS hP hM hO hl rfl (fun h => absurd h (by decide)) (st_same hJ rfl rfl (fun _ _ => rfl) (fun _ _ => rfl)) dL_law_1138 dL_law_1139 dL_law_1142 dL_law_1144 dL_law_1149 dL_law_1151 dL_law_1154 dL_law_1155 dL_law_1156 dL_law_1157 dL_law_1159 dL_law_1160 dL_law_1161 dL_law_1166 rfl (by omega) (by omega) hc1 hs1 kN
  · skip
    refine lw_hth hS hP hM hO (vx_runSW (As := [.ref (ad 0), .int v1, .int v2, .ref ao]) (rest := []) ⟨hx, hb, hml, hown, hts⟩ (h_ifTurned_t1 l D T ad I R ao hlt v1 v2 h1) (vx_cwSW 4 hts gL_law_L_ifTurned rfl rfl rfl (by decide +kernel) ⟨Nat.le_of_ble_eq_true rfl, Nat.le_of_ble_eq_true rfl⟩) ⟨XN.blind, XN.pre hP hK hN hXU hXZ hNc hS rfl⟩ rfl rfl hl.1 rfl (lv_room (Nat.le_of_ble_eq_true rfl)) dL_law_1115 ⟨hc1, hs1⟩) (fun H locs hP hO hM hS => ?_)
    refine lv_istore (lv' := [(5, .int 1), (0, .ref b), (1, .ref (ad 0)), (2, .ref (ad2 0)), (3, .ref ao), (4, .int (nI i))]) hx hb dL_law_1118 hl (by decide) rfl (fun ls hl => ?_)
    refine lv_aload_n hx hb dL_law_1120 rfl (lv_at hl 3 rfl) ?_
    refine lw_arg (q := 1) C0 hS (lv_at hl 1 rfl) (lv_at hl 5 rfl) (by omega) (by decide) dL_law_1121 dL_law_1122 dL_law_1124 dL_law_1125 dL_law_1126 e1 ?_
    refine lw_arg (q := 2) C0 hS (lv_at hl 1 rfl) (lv_at hl 5 rfl) (by omega) (by decide) dL_law_1127 dL_law_1128 dL_law_1130 dL_law_1131 dL_law_1132 e2 ?_
    refine lw_mi C0 hS hP hO (va_runV (As := [.int v1, .int v2]) (rest := []) ⟨hx, hb, hml, hown, hts⟩ (c_X4_ifTurned_e1 l D T ad2 I2 R2 _ v1 v2 hAD2 h1) (cwV 2 hts gL_law_X4_ifTurned rfl rfl rfl (by decide +kernel) ⟨Nat.le_of_ble_eq_true rfl, Nat.le_of_ble_eq_true rfl⟩) ⟨MB.blind, va_recv hK hM (ci := 4) (q0 := 0) rfl mw_0, MB.pre hM hK rfl⟩ rfl rfl hl.1 rfl (lv_room (Nat.le_of_ble_eq_true rfl)) dL_law_1133 ⟨hc1, hs1⟩) (fun u2 H locs hu hP hO hM hS => ?_)
    refine lv_istore (lv' := [(6, .int _), (5, .int 1), (0, .ref b), (1, .ref (ad 0)), (2, .ref (ad2 0)), (3, .ref ao), (4, .int (nI i))]) hx hb dL_law_1136 hl (by decide) rfl (fun ls hl => ?_)
    exact lw_tail C0 hS hP hM hO hl rfl (fun h => absurd h (by decide)) (st_same hJ rfl rfl (fun _ _ => rfl) (fun _ _ => rfl)) dL_law_1138 dL_law_1139 dL_law_1142 dL_law_1144 dL_law_1149 dL_law_1151 dL_law_1154 dL_law_1155 dL_law_1156 dL_law_1157 dL_law_1159 dL_law_1160 dL_law_1161 dL_law_1166 rfl (by omega) (by omega) hc1 hs1 kN
set_option maxHeartbeats 4000000 in
set_option maxRecDepth 100000 in
theorem lc_bestTurn {p : Program} {l : Launch} {e : Env} {s : State} {m : MethodId} {args : Array Value} {below : List Frame} {meth : Method} {c : Code} {H : Heap} {locs : List Loc} {cells slots : Nat} {Q : State → Prop} {D : va_G} {T : Nat → ClassId} {ad ad2 : Nat → Nat} {ao : Nat} {b : Addr} {L : Nat} {xs : Nat → Int32} {ls : Array Slot} {i : Nat} (C0 : LwF p l s m c args D T ad ad2 ao b L xs) (J : LJ D T ad ad2 ao H) (hS : va_S (LwA s) s.heap H locs) (hl : lv_has ls 9 (lwLv b ad ad2 ao i)) (hi : i + 2 < L) (hc : cells + 1 ≤ 649774) (hs : slots + 6 ≤ 7146782) (kN : LwK p l e s m args below meth c Q D T ad ad2 ao b i cells slots) : W p l e room_1 s m args below meth c H locs cells slots Q (F0 m 1169 ls []) := by
  have C1 := C0
  obtain ⟨hx, hb, hml, hown, hts, hK, hN, hXU, hXZ, hNc, hAD, hAD2, hap, hao, hao2, hge, hge2, hgo, hX, hbl, hlt, hL⟩ := C1
  obtain ⟨I, R, I2, R2, g, m9, nx, ct, ks, len, hP, hM, hO, hJ, hNm⟩ := lj_norm J
  have hc0 : cells + 0 ≤ room_1.cells := show cells + 0 ≤ 649774 by omega
  have hs0 : slots + 0 ≤ room_1.slots := show slots + 0 ≤ 7146782 by omega
  have hc1 : cells + 1 ≤ room_1.cells := hc
  have hs1 : slots + 6 ≤ room_1.slots := hs
  have hnx : nx < 6 := hJ.2.1.1
  have hct : ct ≤ 6 := hJ.2.1.2.1
  have hI1 : I 1 = nI nx := hJ.2.1.2.2.1
  have hI2 : I 2 = nI ct := hJ.2.1.2.2.2.1
  have hI21 : I2 1 = nI ct := hJ.2.2.1
  have hI4 : I 4 = nI m9 := hJ.1.1
  have hrl : RlW m9 (R2 0) := hJ.1.2.1
  have hm : m9 < 256 := hrl.1
  have hI5 : I 5 = R2 0 24 := hJ.1.2.2.1
  have hbd : BdA (R2 0) := hJ.1.2.2.2.2.2
  have hks : ks < 4 := hJ.2.2.2.1.1
  have hI0 : I 0 = nI ks := hJ.2.2.2.1.2.1
  have hTx : TxT (R2 4) len := hJ.2.2.2.2.1
  have hlen : len ≤ 60 := hTx.1
  have hI3 : I 3 = nI len := hJ.2.2.2.2.2.1
  have hI22 : I2 2 = nI len := hJ.2.2.2.2.2.2.1
  have n0 : R 0 = R2 0 := hNm.1
  have n1 : R 1 = qz (R2 0) := hNm.2.1
  have n18 : R 18 = R2 4 := hNm.2.2
  refine lv_aload_n hx hb dL_law_1169 rfl (lv_at hl 1 rfl) ?_
  refine lw_ri hS hP hM hO (va_runV (As := []) (rest := []) ⟨hx, hb, hml, hown, hts⟩ (c_X3_bestTurn l D T ad I R m9 hm hI4) (cwV 0 hts gL_law_X3_bestTurn rfl rfl rfl (by decide +kernel) ⟨Nat.le_of_ble_eq_true rfl, Nat.le_of_ble_eq_true rfl⟩) ⟨CR.blind, va_recv hK hP (ci := 3) (q0 := 0) rfl cw_0, CR.pre hP hK hN rfl⟩ rfl rfl hl.1 rfl (lv_room (Nat.le_of_ble_eq_true rfl)) dL_law_1170 ⟨hc0, hs0⟩) (fun H locs hP hO hM hS => ?_)
  refine lv_aload_n hx hb dL_law_1173 rfl (lv_at hl 2 rfl) ?_
  refine lw_mi C0 hS hP hO (va_runV (As := []) (rest := [_]) ⟨hx, hb, hml, hown, hts⟩ (c_X4_bestTurn l D T ad2 I2 R2 _ hAD2) (cwV 0 hts gL_law_X4_bestTurn rfl rfl rfl (by decide +kernel) ⟨Nat.le_of_ble_eq_true rfl, Nat.le_of_ble_eq_true rfl⟩) ⟨MB.blind, va_recv hK hM (ci := 4) (q0 := 0) rfl mw_0, MB.pre hM hK rfl⟩ rfl rfl hl.1 rfl (lv_room (Nat.le_of_ble_eq_true rfl)) dL_law_1174 ⟨hc0, hs0⟩) (fun u2 H locs hu hP hO hM hS => ?_)
  have hE : nI (btS (fun b => dtS (R 1) (dr (R 0) m9) b 8) 7) = nI (btS (fun b => dtS (qz (R2 0)) (us (R2 0)) b 8) 7) := by rw [n0, n1, rl_bt hrl]
  refine lv_icmp_eq (tgt := 1237) hx hb dL_law_1177 (by decide) (fun _ => ?_) (fun h => absurd hE h)
  exact kN H locs ls _ _ ⟨_, _, _, _, g, _, _, _, _, _, hP, hM, hO, (st_same hJ rfl rfl (fun _ _ => rfl) (fun _ _ => rfl))⟩ hS hl (by omega) (by omega)
set_option maxHeartbeats 4000000 in
set_option maxRecDepth 100000 in
theorem lc_mainShare {p : Program} {l : Launch} {e : Env} {s : State} {m : MethodId} {args : Array Value} {below : List Frame} {meth : Method} {c : Code} {H : Heap} {locs : List Loc} {cells slots : Nat} {Q : State → Prop} {D : va_G} {T : Nat → ClassId} {ad ad2 : Nat → Nat} {ao : Nat} {b : Addr} {L : Nat} {xs : Nat → Int32} {ls : Array Slot} {i : Nat} (C0 : LwF p l s m c args D T ad ad2 ao b L xs) (J : LJ D T ad ad2 ao H) (hS : va_S (LwA s) s.heap H locs) (hl : lv_has ls 9 (lwLv b ad ad2 ao i)) (hi : i + 2 < L) (hc : cells + 1 ≤ 649774) (hs : slots + 6 ≤ 7146782) (kN : LwK p l e s m args below meth c Q D T ad ad2 ao b i cells slots) : W p l e room_1 s m args below meth c H locs cells slots Q (F0 m 1182 ls []) := by
  have C1 := C0
  obtain ⟨hx, hb, hml, hown, hts, hK, hN, hXU, hXZ, hNc, hAD, hAD2, hap, hao, hao2, hge, hge2, hgo, hX, hbl, hlt, hL⟩ := C1
  obtain ⟨I, R, I2, R2, g, m9, nx, ct, ks, len, hP, hM, hO, hJ, hNm⟩ := lj_norm J
  have hc0 : cells + 0 ≤ room_1.cells := show cells + 0 ≤ 649774 by omega
  have hs0 : slots + 0 ≤ room_1.slots := show slots + 0 ≤ 7146782 by omega
  have hc1 : cells + 1 ≤ room_1.cells := hc
  have hs1 : slots + 6 ≤ room_1.slots := hs
  have hnx : nx < 6 := hJ.2.1.1
  have hct : ct ≤ 6 := hJ.2.1.2.1
  have hI1 : I 1 = nI nx := hJ.2.1.2.2.1
  have hI2 : I 2 = nI ct := hJ.2.1.2.2.2.1
  have hI21 : I2 1 = nI ct := hJ.2.2.1
  have hI4 : I 4 = nI m9 := hJ.1.1
  have hrl : RlW m9 (R2 0) := hJ.1.2.1
  have hm : m9 < 256 := hrl.1
  have hI5 : I 5 = R2 0 24 := hJ.1.2.2.1
  have hbd : BdA (R2 0) := hJ.1.2.2.2.2.2
  have hks : ks < 4 := hJ.2.2.2.1.1
  have hI0 : I 0 = nI ks := hJ.2.2.2.1.2.1
  have hTx : TxT (R2 4) len := hJ.2.2.2.2.1
  have hlen : len ≤ 60 := hTx.1
  have hI3 : I 3 = nI len := hJ.2.2.2.2.2.1
  have hI22 : I2 2 = nI len := hJ.2.2.2.2.2.2.1
  have n0 : R 0 = R2 0 := hNm.1
  have n1 : R 1 = qz (R2 0) := hNm.2.1
  have n18 : R 18 = R2 4 := hNm.2.2
  refine lv_aload_n hx hb dL_law_1182 rfl (lv_at hl 1 rfl) ?_
  refine lw_rd hS hP hM hO (va_runV (As := []) (rest := []) ⟨hx, hb, hml, hown, hts⟩ (c_X3_mainShare l D T ad I R m9 hm hI4 fp_NND) (cwV 0 hts gL_law_X3_mainShare rfl rfl rfl (by decide +kernel) ⟨Nat.le_of_ble_eq_true rfl, Nat.le_of_ble_eq_true rfl⟩) ⟨CR.blind, va_recv hK hP (ci := 3) (q0 := 0) rfl cw_0, CR.pre hP hK hN rfl⟩ rfl rfl hl.1 rfl (lv_room (Nat.le_of_ble_eq_true rfl)) dL_law_1183 ⟨hc0, hs0⟩) (fun H locs hP hO hM hS => ?_)
  refine lv_dstore (lv' := [(5, .double _), (0, .ref b), (1, .ref (ad 0)), (2, .ref (ad2 0)), (3, .ref ao), (4, .int (nI i))]) hx hb dL_law_1186 hl (by decide) rfl (fun ls hl => ?_)
  refine lv_aload_n hx hb dL_law_1188 rfl (lv_at hl 3 rfl) ?_
  refine lw_md C0 hS hP hO (va_runV (As := []) (rest := []) ⟨hx, hb, hml, hown, hts⟩ (c_X4_mainShare l D T ad2 I2 R2 _ hAD2 fp_NND) (cwV 0 hts gL_law_X4_mainShare rfl rfl rfl (by decide +kernel) ⟨Nat.le_of_ble_eq_true rfl, Nat.le_of_ble_eq_true rfl⟩) ⟨MB.blind, va_recv hK hM (ci := 4) (q0 := 0) rfl mw_0, MB.pre hM hK rfl⟩ rfl rfl hl.1 rfl (lv_room (Nat.le_of_ble_eq_true rfl)) dL_law_1189 ⟨hc0, hs0⟩) (fun u2 H locs hu hP hO hM hS => ?_)
  have hE : Op.cmpValue (FP.dcmp (msF (dr (R 0) m9)) (msF (us (R2 0)))) .l = 0 := by
    rw [n0, rl_ms hrl]
    have h := (ms_ok (bd_us hbd)).2.1
    unfold nnI at h
    split at h
    · assumption
    · cases h
  refine lv_dstore (lv' := [(7, .double _), (5, .double _), (0, .ref b), (1, .ref (ad 0)), (2, .ref (ad2 0)), (3, .ref ao), (4, .int (nI i))]) hx hb dL_law_1192 hl (by decide) rfl (fun ls hl => ?_)
  refine lv_dload hx hb dL_law_1194 (lv_at hl 1 rfl) ?_
  refine lv_dload hx hb dL_law_1196 (lv_at hl 0 rfl) ?_
  refine lv_dcmp hx hb dL_law_1198 ?_
  refine lv_if_eq (tgt := 1220) hx hb dL_law_1199 (by decide) (fun _ => ?_) (fun h => absurd hE h)
  refine lv_goto (tgt := 1237) hx hb dL_law_1220 (by decide) ?_
  exact kN H locs ls _ _ ⟨_, _, _, _, g, _, _, _, _, _, hP, hM, hO, (st_same hJ rfl rfl (fun _ _ => rfl) (fun _ _ => rfl))⟩ hS (lv_sub hl [2, 3, 4, 5, 6] rfl) (by omega) (by omega)
set_option maxHeartbeats 4000000 in
set_option maxRecDepth 100000 in
theorem lc_digest {p : Program} {l : Launch} {e : Env} {s : State} {m : MethodId} {args : Array Value} {below : List Frame} {meth : Method} {c : Code} {H : Heap} {locs : List Loc} {cells slots : Nat} {Q : State → Prop} {D : va_G} {T : Nat → ClassId} {ad ad2 : Nat → Nat} {ao : Nat} {b : Addr} {L : Nat} {xs : Nat → Int32} {ls : Array Slot} {i : Nat} (C0 : LwF p l s m c args D T ad ad2 ao b L xs) (J : LJ D T ad ad2 ao H) (hS : va_S (LwA s) s.heap H locs) (hl : lv_has ls 9 (lwLv b ad ad2 ao i)) (hi : i + 2 < L) (hc : cells + 1 ≤ 649774) (hs : slots + 6 ≤ 7146782) (kN : LwK p l e s m args below meth c Q D T ad ad2 ao b i cells slots) : W p l e room_1 s m args below meth c H locs cells slots Q (F0 m 1223 ls []) := by
  have C1 := C0
  obtain ⟨hx, hb, hml, hown, hts, hK, hN, hXU, hXZ, hNc, hAD, hAD2, hap, hao, hao2, hge, hge2, hgo, hX, hbl, hlt, hL⟩ := C1
  obtain ⟨I, R, I2, R2, g, m9, nx, ct, ks, len, hP, hM, hO, hJ, hNm⟩ := lj_norm J
  have hc0 : cells + 0 ≤ room_1.cells := show cells + 0 ≤ 649774 by omega
  have hs0 : slots + 0 ≤ room_1.slots := show slots + 0 ≤ 7146782 by omega
  have hc1 : cells + 1 ≤ room_1.cells := hc
  have hs1 : slots + 6 ≤ room_1.slots := hs
  have hnx : nx < 6 := hJ.2.1.1
  have hct : ct ≤ 6 := hJ.2.1.2.1
  have hI1 : I 1 = nI nx := hJ.2.1.2.2.1
  have hI2 : I 2 = nI ct := hJ.2.1.2.2.2.1
  have hI21 : I2 1 = nI ct := hJ.2.2.1
  have hI4 : I 4 = nI m9 := hJ.1.1
  have hrl : RlW m9 (R2 0) := hJ.1.2.1
  have hm : m9 < 256 := hrl.1
  have hI5 : I 5 = R2 0 24 := hJ.1.2.2.1
  have hbd : BdA (R2 0) := hJ.1.2.2.2.2.2
  have hks : ks < 4 := hJ.2.2.2.1.1
  have hI0 : I 0 = nI ks := hJ.2.2.2.1.2.1
  have hTx : TxT (R2 4) len := hJ.2.2.2.2.1
  have hlen : len ≤ 60 := hTx.1
  have hI3 : I 3 = nI len := hJ.2.2.2.2.2.1
  have hI22 : I2 2 = nI len := hJ.2.2.2.2.2.2.1
  have n0 : R 0 = R2 0 := hNm.1
  have n1 : R 1 = qz (R2 0) := hNm.2.1
  have n18 : R 18 = R2 4 := hNm.2.2
  refine lv_aload_n hx hb dL_law_1223 rfl (lv_at hl 1 rfl) ?_
  refine lw_cl C0 hS hM hO (va_runV (As := []) (rest := []) ⟨hx, hb, hml, hown, hts⟩ (c_X3_digest l D T ad I R _ m9 ks len hAD hm hI4 hks hI0 hlen hI3 fp_NND (by rw [n0, rl_ms hrl]; exact (ms_ok (bd_us hbd)).2.2)) (cwV 0 hts gL_law_X3_digest rfl rfl rfl (by decide +kernel) ⟨Nat.le_of_ble_eq_true rfl, Nat.le_of_ble_eq_true rfl⟩) ⟨CB.blind, va_recv hK hP (ci := 3) (q0 := 0) rfl cw_0, CB.pre hP hK hN rfl⟩ rfl rfl hl.1 rfl (lv_room (Nat.le_of_ble_eq_true rfl)) dL_law_1224 ⟨hc0, hs0⟩) (fun u1 H locs hv hP hO hM hS => ?_)
  refine lv_aload_n hx hb dL_law_1227 rfl (lv_at hl 2 rfl) ?_
  refine lw_ml C0 hS hP hO (va_runV (As := []) (rest := [_]) ⟨hx, hb, hml, hown, hts⟩ (c_X4_digest l D T ad2 I2 R2 _ len hAD2 hlen hI22 fp_NND ((ms_ok (bd_us hbd)).2.1)) (cwV 0 hts gL_law_X4_digest rfl rfl rfl (by decide +kernel) ⟨Nat.le_of_ble_eq_true rfl, Nat.le_of_ble_eq_true rfl⟩) ⟨MB.blind, va_recv hK hM (ci := 4) (q0 := 0) rfl mw_0, MB.pre hM hK rfl⟩ rfl rfl hl.1 rfl (lv_room (Nat.le_of_ble_eq_true rfl)) dL_law_1228 ⟨hc0, hs0⟩) (fun u2 H locs hu hP hO hM hS => ?_)
  have hE : dgF (R 0) (R 1) m9 (I 5) (I 2) ks len (R 18) = mdF (R2 0) (I2 1) (R2 3) len (R2 4) := by
    rw [n0, n1, n18, hI5, hI2, hI21]
    exact rl_dg hrl hbd (rl_fe hrl hbd) (ms_ok (bd_us hbd)).1 (fun j hj => (hJ.2.2.2.1.2.2 j hj).1) (nI ct) len (fun _ _ => rfl)
  refine W.lcmp hx hb dL_law_1231 ?_
  refine lv_if_eq (tgt := 1237) hx hb dL_law_1232 (by decide) (fun _ => ?_) (fun h => absurd ((lg_cmp_eq _ _).mpr hE) h)
  exact kN H locs ls _ _ ⟨_, _, _, _, g, _, _, _, _, _, hP, hM, hO, (st_same hJ rfl rfl (fun j hj => ur_ne (by omega)) (fun j hj => ur_ne (by omega)))⟩ hS hl (by omega) (by omega)

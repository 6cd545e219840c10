/-! the law's cases -/
theorem upL_0 {g : Nat → Int64} {x : Int64} : vp_updL g 0 x 0 = x := by unfold vp_updL; rw [if_pos rfl]
theorem cn_c8 {f g : Nat → Int32} (h : ∀ k, k < 8 → f k = g k) : ∀ i, i ≤ 8 → cnS f i = cnS g i
  | 0, _ => rfl
  | i + 1, hi => by
    unfold cnS
    rw [cn_c8 h i (by omega), h i (by omega)]

set_option maxHeartbeats 4000000 in
set_option maxRecDepth 100000 in
theorem lc_set {p : Program} {l : Launch} {e : Env} {s : State} {m : MethodId} {args : Array Value} {below : List Frame} {meth : Method} {c : Code} {H : Heap} {locs : List Loc} {cells slots : Nat} {Q : State → Prop} {D : va_G} {T : Nat → ClassId} {ad ad2 : Nat → Nat} {ao : Nat} {b : Addr} {L : Nat} {xs : Nat → Int32} {ls : Array Slot} {i : Nat} (C0 : LwF p l s m c args D T ad ad2 ao b L xs) (J : LJ D T ad ad2 ao H) (hS : va_S (LwA s) s.heap H locs) (hl : lv_has ls 9 (lwLv b ad ad2 ao i)) (hi : i + 2 < L) (hc : cells + 1 ≤ 649774) (hs : slots + 6 ≤ 7146782) (kN : LwK p l e s m args below meth c Q D T ad ad2 ao b i cells slots) : W p l e room_1 s m args below meth c H locs cells slots Q (F0 m 148 ls []) := by
  have C1 := C0
  obtain ⟨hx, hb, hml, hown, hts, hK, hN, hXU, hXZ, hNc, hAD, hAD2, hap, hao, hao2, hge, hge2, hgo, hX, hbl, hlt, hL⟩ := C1
  obtain ⟨I, R, I2, R2, g, m9, nx, ct, ks, len, hP, hM, hO, hJ, hNm⟩ := lj_norm J
  have hc0 : cells + 0 ≤ room_1.cells := show cells + 0 ≤ 649774 by omega
  have hs0 : slots + 0 ≤ room_1.slots := show slots + 0 ≤ 7146782 by omega
  have hc1 : cells + 1 ≤ room_1.cells := hc
  have hs1 : slots + 6 ≤ room_1.slots := hs
  have hnx : nx < 6 := hJ.2.1.1
  have hct : ct ≤ 6 := hJ.2.1.2.1
  have hI1 : I 1 = nI nx := hJ.2.1.2.2.1
  have hI2 : I 2 = nI ct := hJ.2.1.2.2.2.1
  have hI21 : I2 1 = nI ct := hJ.2.2.1
  have hI4 : I 4 = nI m9 := hJ.1.1
  have hrl : RlW m9 (R2 0) := hJ.1.2.1
  have hm : m9 < 256 := hrl.1
  have hI5 : I 5 = R2 0 24 := hJ.1.2.2.1
  have hbd : BdA (R2 0) := hJ.1.2.2.2.2.2
  have hks : ks < 4 := hJ.2.2.2.1.1
  have hI0 : I 0 = nI ks := hJ.2.2.2.1.2.1
  have hTx : TxT (R2 4) len := hJ.2.2.2.2.1
  have hlen : len ≤ 60 := hTx.1
  have hI3 : I 3 = nI len := hJ.2.2.2.2.2.1
  have hI22 : I2 2 = nI len := hJ.2.2.2.2.2.2.1
  have n0 : R 0 = R2 0 := hNm.1
  have n1 : R 1 = qz (R2 0) := hNm.2.1
  have n18 : R 18 = R2 4 := hNm.2.2
  obtain ⟨v1, e1⟩ : ∃ v, xs (i + 1) = v := ⟨_, rfl⟩
  obtain ⟨v2, e2⟩ : ∃ v, xs (i + 2) = v := ⟨_, rfl⟩
  refine lv_aload_n hx hb dL_law_148 rfl (lv_at hl 1 rfl) ?_
  refine lw_arg (q := 1) C0 hS (lv_at hl 0 rfl) (lv_at hl 4 rfl) (by omega) (by decide) dL_law_149 dL_law_150 dL_law_152 dL_law_153 dL_law_154 e1 ?_
  refine lw_arg (q := 2) C0 hS (lv_at hl 0 rfl) (lv_at hl 4 rfl) (by omega) (by decide) dL_law_155 dL_law_156 dL_law_158 dL_law_159 dL_law_160 e2 ?_
  refine lv_aload_n hx hb dL_law_161 rfl (lv_at hl 3 rfl) ?_
  rcases out_01 v1 0 7 with h1 | h1
  · obtain ⟨k, hk, rfl⟩ := out_nat (n := 7) (by decide) h1
    rcases out_01 v2 (-99) 99 with h2 | h2
    · skip
      refine lw_hok C0 hS hM (vx_runSW (As := [.ref (ad 0), .int (nI k), .int v2, .ref ao]) (rest := []) ⟨hx, hb, hml, hown, hts⟩ (h_set l D T ad I R _ ao g nx ct k v2 hAD hnx hct hI1 hI2 hk h2 hao) (vx_cwSW 4 hts gL_law_L_set rfl rfl rfl (by decide +kernel) ⟨Nat.le_of_ble_eq_true rfl, Nat.le_of_ble_eq_true rfl⟩) ⟨HB.blind, HB.pre hP hO hK hN rfl⟩ rfl rfl hl.1 rfl (lv_room (Nat.le_of_ble_eq_true rfl)) dL_law_162 ⟨hc0, hs0⟩) (fun u1 H locs hP hO hM hS => ?_)
      refine lv_istore (lv' := [(5, .int 0), (0, .ref b), (1, .ref (ad 0)), (2, .ref (ad2 0)), (3, .ref ao), (4, .int (nI i))]) hx hb dL_law_165 hl (by decide) rfl (fun ls hl => ?_)
      refine lv_aload_n hx hb dL_law_167 rfl (lv_at hl 3 rfl) ?_
      refine lw_arg (q := 1) C0 hS (lv_at hl 1 rfl) (lv_at hl 5 rfl) (by omega) (by decide) dL_law_168 dL_law_169 dL_law_171 dL_law_172 dL_law_173 e1 ?_
      refine lw_arg (q := 2) C0 hS (lv_at hl 1 rfl) (lv_at hl 5 rfl) (by omega) (by decide) dL_law_174 dL_law_175 dL_law_177 dL_law_178 dL_law_179 e2 ?_
      refine lw_mi C0 hS hP hO (va_runV (As := [.int (nI k), .int v2]) (rest := []) ⟨hx, hb, hml, hown, hts⟩ (c_X4_set l D T ad2 I2 R2 _ ct k v2 hAD2 hct hI21 hk h2) (cwV 2 hts gL_law_X4_set rfl rfl rfl (by decide +kernel) ⟨Nat.le_of_ble_eq_true rfl, Nat.le_of_ble_eq_true rfl⟩) ⟨MB.blind, va_recv hK hM (ci := 4) (q0 := 0) rfl mw_0, MB.pre hM hK rfl⟩ rfl rfl hl.1 rfl (lv_room (Nat.le_of_ble_eq_true rfl)) dL_law_180 ⟨hc0, hs0⟩) (fun u2 H locs hu hP hO hM hS => ?_)
      refine lv_istore (lv' := [(6, .int _), (5, .int 0), (0, .ref b), (1, .ref (ad 0)), (2, .ref (ad2 0)), (3, .ref ao), (4, .int (nI i))]) hx hb dL_law_183 hl (by decide) rfl (fun ls hl => ?_)
      exact lw_tail C0 hS hP hM hO hl rfl (fun _ => upL_0.trans (congrArg Int32.toInt64 (congrFun n0 k))) (st_set hJ hNm hu hk h2) dL_law_185 dL_law_186 dL_law_189 dL_law_191 dL_law_196 dL_law_198 dL_law_201 dL_law_202 dL_law_203 dL_law_204 dL_law_206 dL_law_207 dL_law_208 dL_law_213 rfl (by omega) (by omega) hc0 hs0 kN
    · skip
      refine lw_hth hS hP hM hO (vx_runSW (As := [.ref (ad 0), .int (nI k), .int v2, .ref ao]) (rest := []) ⟨hx, hb, hml, hown, hts⟩ (h_set_t2 l D T ad I R ao hlt k v2 hk h2) (vx_cwSW 4 hts gL_law_L_set rfl rfl rfl (by decide +kernel) ⟨Nat.le_of_ble_eq_true rfl, Nat.le_of_ble_eq_true rfl⟩) ⟨XN.blind, XN.pre hP hK hN hXU hXZ hNc hS rfl⟩ rfl rfl hl.1 rfl (lv_room (Nat.le_of_ble_eq_true rfl)) dL_law_162 ⟨hc1, hs1⟩) (fun H locs hP hO hM hS => ?_)
      refine lv_istore (lv' := [(5, .int 2), (0, .ref b), (1, .ref (ad 0)), (2, .ref (ad2 0)), (3, .ref ao), (4, .int (nI i))]) hx hb dL_law_165 hl (by decide) rfl (fun ls hl => ?_)
      refine lv_aload_n hx hb dL_law_167 rfl (lv_at hl 3 rfl) ?_
      refine lw_arg (q := 1) C0 hS (lv_at hl 1 rfl) (lv_at hl 5 rfl) (by omega) (by decide) dL_law_168 dL_law_169 dL_law_171 dL_law_172 dL_law_173 e1 ?_
      refine lw_arg (q := 2) C0 hS (lv_at hl 1 rfl) (lv_at hl 5 rfl) (by omega) (by decide) dL_law_174 dL_law_175 dL_law_177 dL_law_178 dL_law_179 e2 ?_
      refine lw_mi C0 hS hP hO (va_runV (As := [.int (nI k), .int v2]) (rest := []) ⟨hx, hb, hml, hown, hts⟩ (c_X4_set_e2 l D T ad2 I2 R2 _ k v2 hAD2 hk h2) (cwV 2 hts gL_law_X4_set rfl rfl rfl (by decide +kernel) ⟨Nat.le_of_ble_eq_true rfl, Nat.le_of_ble_eq_true rfl⟩) ⟨MB.blind, va_recv hK hM (ci := 4) (q0 := 0) rfl mw_0, MB.pre hM hK rfl⟩ rfl rfl hl.1 rfl (lv_room (Nat.le_of_ble_eq_true rfl)) dL_law_180 ⟨hc1, hs1⟩) (fun u2 H locs hu hP hO hM hS => ?_)
      refine lv_istore (lv' := [(6, .int _), (5, .int 2), (0, .ref b), (1, .ref (ad 0)), (2, .ref (ad2 0)), (3, .ref ao), (4, .int (nI i))]) hx hb dL_law_183 hl (by decide) rfl (fun ls hl => ?_)
      exact lw_tail C0 hS hP hM hO hl rfl (fun h => absurd h (by decide)) (st_same hJ rfl rfl (fun _ _ => rfl) (fun _ _ => rfl)) dL_law_185 dL_law_186 dL_law_189 dL_law_191 dL_law_196 dL_law_198 dL_law_201 dL_law_202 dL_law_203 dL_law_204 dL_law_206 dL_law_207 dL_law_208 dL_law_213 rfl (by omega) (by omega) hc1 hs1 kN
  · skip
    refine lw_hth hS hP hM hO (vx_runSW (As := [.ref (ad 0), .int v1, .int v2, .ref ao]) (rest := []) ⟨hx, hb, hml, hown, hts⟩ (h_set_t1 l D T ad I R ao hlt v1 v2 h1) (vx_cwSW 4 hts gL_law_L_set rfl rfl rfl (by decide +kernel) ⟨Nat.le_of_ble_eq_true rfl, Nat.le_of_ble_eq_true rfl⟩) ⟨XN.blind, XN.pre hP hK hN hXU hXZ hNc hS rfl⟩ rfl rfl hl.1 rfl (lv_room (Nat.le_of_ble_eq_true rfl)) dL_law_162 ⟨hc1, hs1⟩) (fun H locs hP hO hM hS => ?_)
    refine lv_istore (lv' := [(5, .int 1), (0, .ref b), (1, .ref (ad 0)), (2, .ref (ad2 0)), (3, .ref ao), (4, .int (nI i))]) hx hb dL_law_165 hl (by decide) rfl (fun ls hl => ?_)
    refine lv_aload_n hx hb dL_law_167 rfl (lv_at hl 3 rfl) ?_
    refine lw_arg (q := 1) C0 hS (lv_at hl 1 rfl) (lv_at hl 5 rfl) (by omega) (by decide) dL_law_168 dL_law_169 dL_law_171 dL_law_172 dL_law_173 e1 ?_
    refine lw_arg (q := 2) C0 hS (lv_at hl 1 rfl) (lv_at hl 5 rfl) (by omega) (by decide) dL_law_174 dL_law_175 dL_law_177 dL_law_178 dL_law_179 e2 ?_
    refine lw_mi C0 hS hP hO (va_runV (As := [.int v1, .int v2]) (rest := []) ⟨hx, hb, hml, hown, hts⟩ (c_X4_set_e1 l D T ad2 I2 R2 _ v1 v2 hAD2 h1) (cwV 2 hts gL_law_X4_set rfl rfl rfl (by decide +kernel) ⟨Nat.le_of_ble_eq_true rfl, Nat.le_of_ble_eq_true rfl⟩) ⟨MB.blind, va_recv hK hM (ci := 4) (q0 := 0) rfl mw_0, MB.pre hM hK rfl⟩ rfl rfl hl.1 rfl (lv_room (Nat.le_of_ble_eq_true rfl)) dL_law_180 ⟨hc1, hs1⟩) (fun u2 H locs hu hP hO hM hS => ?_)
    refine lv_istore (lv' := [(6, .int _), (5, .int 1), (0, .ref b), (1, .ref (ad 0)), (2, .ref (ad2 0)), (3, .ref ao), (4, .int (nI i))]) hx hb dL_law_183 hl (by decide) rfl (fun ls hl => ?_)
    exact lw_tail C0 hS hP hM hO hl rfl (fun h => absurd h (by decide)) (st_same hJ rfl rfl (fun _ _ => rfl) (fun _ _ => rfl)) dL_law_185 dL_law_186 dL_law_189 dL_law_191 dL_law_196 dL_law_198 dL_law_201 dL_law_202 dL_law_203 dL_law_204 dL_law_206 dL_law_207 dL_law_208 dL_law_213 rfl (by omega) (by omega) hc1 hs1 kN
set_option maxHeartbeats 4000000 in
set_option maxRecDepth 100000 in
theorem lc_lose {p : Program} {l : Launch} {e : Env} {s : State} {m : MethodId} {args : Array Value} {below : List Frame} {meth : Method} {c : Code} {H : Heap} {locs : List Loc} {cells slots : Nat} {Q : State → Prop} {D : va_G} {T : Nat → ClassId} {ad ad2 : Nat → Nat} {ao : Nat} {b : Addr} {L : Nat} {xs : Nat → Int32} {ls : Array Slot} {i : Nat} (C0 : LwF p l s m c args D T ad ad2 ao b L xs) (J : LJ D T ad ad2 ao H) (hS : va_S (LwA s) s.heap H locs) (hl : lv_has ls 9 (lwLv b ad ad2 ao i)) (hi : i + 2 < L) (hc : cells + 1 ≤ 649774) (hs : slots + 6 ≤ 7146782) (kN : LwK p l e s m args below meth c Q D T ad ad2 ao b i cells slots) : W p l e room_1 s m args below meth c H locs cells slots Q (F0 m 216 ls []) := by
  have C1 := C0
  obtain ⟨hx, hb, hml, hown, hts, hK, hN, hXU, hXZ, hNc, hAD, hAD2, hap, hao, hao2, hge, hge2, hgo, hX, hbl, hlt, hL⟩ := C1
  obtain ⟨I, R, I2, R2, g, m9, nx, ct, ks, len, hP, hM, hO, hJ, hNm⟩ := lj_norm J
  have hc0 : cells + 0 ≤ room_1.cells := show cells + 0 ≤ 649774 by omega
  have hs0 : slots + 0 ≤ room_1.slots := show slots + 0 ≤ 7146782 by omega
  have hc1 : cells + 1 ≤ room_1.cells := hc
  have hs1 : slots + 6 ≤ room_1.slots := hs
  have hnx : nx < 6 := hJ.2.1.1
  have hct : ct ≤ 6 := hJ.2.1.2.1
  have hI1 : I 1 = nI nx := hJ.2.1.2.2.1
  have hI2 : I 2 = nI ct := hJ.2.1.2.2.2.1
  have hI21 : I2 1 = nI ct := hJ.2.2.1
  have hI4 : I 4 = nI m9 := hJ.1.1
  have hrl : RlW m9 (R2 0) := hJ.1.2.1
  have hm : m9 < 256 := hrl.1
  have hI5 : I 5 = R2 0 24 := hJ.1.2.2.1
  have hbd : BdA (R2 0) := hJ.1.2.2.2.2.2
  have hks : ks < 4 := hJ.2.2.2.1.1
  have hI0 : I 0 = nI ks := hJ.2.2.2.1.2.1
  have hTx : TxT (R2 4) len := hJ.2.2.2.2.1
  have hlen : len ≤ 60 := hTx.1
  have hI3 : I 3 = nI len := hJ.2.2.2.2.2.1
  have hI22 : I2 2 = nI len := hJ.2.2.2.2.2.2.1
  have n0 : R 0 = R2 0 := hNm.1
  have n1 : R 1 = qz (R2 0) := hNm.2.1
  have n18 : R 18 = R2 4 := hNm.2.2
  obtain ⟨v1, e1⟩ : ∃ v, xs (i + 1) = v := ⟨_, rfl⟩
  refine lv_aload_n hx hb dL_law_216 rfl (lv_at hl 1 rfl) ?_
  refine lw_arg (q := 1) C0 hS (lv_at hl 0 rfl) (lv_at hl 4 rfl) (by omega) (by decide) dL_law_217 dL_law_218 dL_law_220 dL_law_221 dL_law_222 e1 ?_
  refine lv_aload_n hx hb dL_law_223 rfl (lv_at hl 3 rfl) ?_
  rcases out_01 v1 0 7 with h1 | h1
  · obtain ⟨k, hk, rfl⟩ := out_nat (n := 7) (by decide) h1
    refine lw_hok C0 hS hM (vx_runSW (As := [.ref (ad 0), .int (nI k), .ref ao]) (rest := []) ⟨hx, hb, hml, hown, hts⟩ (h_lose l D T ad I R _ ao g nx ct m9 k hAD hnx hct hI1 hI2 hm hI4 hk hao) (vx_cwSW 3 hts gL_law_L_lose rfl rfl rfl (by decide +kernel) ⟨Nat.le_of_ble_eq_true rfl, Nat.le_of_ble_eq_true rfl⟩) ⟨HB.blind, HB.pre hP hO hK hN rfl⟩ rfl rfl hl.1 rfl (lv_room (Nat.le_of_ble_eq_true rfl)) dL_law_224 ⟨hc0, hs0⟩) (fun u1 H locs hP hO hM hS => ?_)
    refine lv_istore (lv' := [(5, .int 0), (0, .ref b), (1, .ref (ad 0)), (2, .ref (ad2 0)), (3, .ref ao), (4, .int (nI i))]) hx hb dL_law_227 hl (by decide) rfl (fun ls hl => ?_)
    refine lv_aload_n hx hb dL_law_229 rfl (lv_at hl 3 rfl) ?_
    refine lw_arg (q := 1) C0 hS (lv_at hl 1 rfl) (lv_at hl 5 rfl) (by omega) (by decide) dL_law_230 dL_law_231 dL_law_233 dL_law_234 dL_law_235 e1 ?_
    refine lw_mi C0 hS hP hO (va_runV (As := [.int (nI k)]) (rest := []) ⟨hx, hb, hml, hown, hts⟩ (c_X4_lose l D T ad2 I2 R2 _ ct k hAD2 hct hI21 hk) (cwV 1 hts gL_law_X4_lose rfl rfl rfl (by decide +kernel) ⟨Nat.le_of_ble_eq_true rfl, Nat.le_of_ble_eq_true rfl⟩) ⟨MB.blind, va_recv hK hM (ci := 4) (q0 := 0) rfl mw_0, MB.pre hM hK rfl⟩ rfl rfl hl.1 rfl (lv_room (Nat.le_of_ble_eq_true rfl)) dL_law_236 ⟨hc0, hs0⟩) (fun u2 H locs hu hP hO hM hS => ?_)
    refine lv_istore (lv' := [(6, .int _), (5, .int 0), (0, .ref b), (1, .ref (ad 0)), (2, .ref (ad2 0)), (3, .ref ao), (4, .int (nI i))]) hx hb dL_law_239 hl (by decide) rfl (fun ls hl => ?_)
    exact lw_tail C0 hS hP hM hO hl rfl (fun _ => upL_0.trans (congrArg Int32.toInt64 (rl_lor hrl hk))) (st_lose hJ hNm hu hk) dL_law_241 dL_law_242 dL_law_245 dL_law_247 dL_law_252 dL_law_254 dL_law_257 dL_law_258 dL_law_259 dL_law_260 dL_law_262 dL_law_263 dL_law_264 dL_law_269 rfl (by omega) (by omega) hc0 hs0 kN
  · skip
    refine lw_hth hS hP hM hO (vx_runSW (As := [.ref (ad 0), .int v1, .ref ao]) (rest := []) ⟨hx, hb, hml, hown, hts⟩ (h_lose_t1 l D T ad I R ao hlt v1 h1) (vx_cwSW 3 hts gL_law_L_lose rfl rfl rfl (by decide +kernel) ⟨Nat.le_of_ble_eq_true rfl, Nat.le_of_ble_eq_true rfl⟩) ⟨XN.blind, XN.pre hP hK hN hXU hXZ hNc hS rfl⟩ rfl rfl hl.1 rfl (lv_room (Nat.le_of_ble_eq_true rfl)) dL_law_224 ⟨hc1, hs1⟩) (fun H locs hP hO hM hS => ?_)
    refine lv_istore (lv' := [(5, .int 1), (0, .ref b), (1, .ref (ad 0)), (2, .ref (ad2 0)), (3, .ref ao), (4, .int (nI i))]) hx hb dL_law_227 hl (by decide) rfl (fun ls hl => ?_)
    refine lv_aload_n hx hb dL_law_229 rfl (lv_at hl 3 rfl) ?_
    refine lw_arg (q := 1) C0 hS (lv_at hl 1 rfl) (lv_at hl 5 rfl) (by omega) (by decide) dL_law_230 dL_law_231 dL_law_233 dL_law_234 dL_law_235 e1 ?_
    refine lw_mi C0 hS hP hO (va_runV (As := [.int v1]) (rest := []) ⟨hx, hb, hml, hown, hts⟩ (c_X4_lose_e1 l D T ad2 I2 R2 _ v1 hAD2 h1) (cwV 1 hts gL_law_X4_lose rfl rfl rfl (by decide +kernel) ⟨Nat.le_of_ble_eq_true rfl, Nat.le_of_ble_eq_true rfl⟩) ⟨MB.blind, va_recv hK hM (ci := 4) (q0 := 0) rfl mw_0, MB.pre hM hK rfl⟩ rfl rfl hl.1 rfl (lv_room (Nat.le_of_ble_eq_true rfl)) dL_law_236 ⟨hc1, hs1⟩) (fun u2 H locs hu hP hO hM hS => ?_)
    refine lv_istore (lv' := [(6, .int _), (5, .int 1), (0, .ref b), (1, .ref (ad 0)), (2, .ref (ad2 0)), (3, .ref ao), (4, .int (nI i))]) hx hb dL_law_239 hl (by decide) rfl (fun ls hl => ?_)
    exact lw_tail C0 hS hP hM hO hl rfl (fun h => absurd h (by decide)) (st_same hJ rfl rfl (fun _ _ => rfl) (fun _ _ => rfl)) dL_law_241 dL_law_242 dL_law_245 dL_law_247 dL_law_252 dL_law_254 dL_law_257 dL_law_258 dL_law_259 dL_law_260 dL_law_262 dL_law_263 dL_law_264 dL_law_269 rfl (by omega) (by omega) hc1 hs1 kN
set_option maxHeartbeats 4000000 in
set_option maxRecDepth 100000 in
theorem lc_turn {p : Program} {l : Launch} {e : Env} {s : State} {m : MethodId} {args : Array Value} {below : List Frame} {meth : Method} {c : Code} {H : Heap} {locs : List Loc} {cells slots : Nat} {Q : State → Prop} {D : va_G} {T : Nat → ClassId} {ad ad2 : Nat → Nat} {ao : Nat} {b : Addr} {L : Nat} {xs : Nat → Int32} {ls : Array Slot} {i : Nat} (C0 : LwF p l s m c args D T ad ad2 ao b L xs) (J : LJ D T ad ad2 ao H) (hS : va_S (LwA s) s.heap H locs) (hl : lv_has ls 9 (lwLv b ad ad2 ao i)) (hi : i + 2 < L) (hc : cells + 1 ≤ 649774) (hs : slots + 6 ≤ 7146782) (kN : LwK p l e s m args below meth c Q D T ad ad2 ao b i cells slots) : W p l e room_1 s m args below meth c H locs cells slots Q (F0 m 272 ls []) := by
  have C1 := C0
  obtain ⟨hx, hb, hml, hown, hts, hK, hN, hXU, hXZ, hNc, hAD, hAD2, hap, hao, hao2, hge, hge2, hgo, hX, hbl, hlt, hL⟩ := C1
  obtain ⟨I, R, I2, R2, g, m9, nx, ct, ks, len, hP, hM, hO, hJ, hNm⟩ := lj_norm J
  have hc0 : cells + 0 ≤ room_1.cells := show cells + 0 ≤ 649774 by omega
  have hs0 : slots + 0 ≤ room_1.slots := show slots + 0 ≤ 7146782 by omega
  have hc1 : cells + 1 ≤ room_1.cells := hc
  have hs1 : slots + 6 ≤ room_1.slots := hs
  have hnx : nx < 6 := hJ.2.1.1
  have hct : ct ≤ 6 := hJ.2.1.2.1
  have hI1 : I 1 = nI nx := hJ.2.1.2.2.1
  have hI2 : I 2 = nI ct := hJ.2.1.2.2.2.1
  have hI21 : I2 1 = nI ct := hJ.2.2.1
  have hI4 : I 4 = nI m9 := hJ.1.1
  have hrl : RlW m9 (R2 0) := hJ.1.2.1
  have hm : m9 < 256 := hrl.1
  have hI5 : I 5 = R2 0 24 := hJ.1.2.2.1
  have hbd : BdA (R2 0) := hJ.1.2.2.2.2.2
  have hks : ks < 4 := hJ.2.2.2.1.1
  have hI0 : I 0 = nI ks := hJ.2.2.2.1.2.1
  have hTx : TxT (R2 4) len := hJ.2.2.2.2.1
  have hlen : len ≤ 60 := hTx.1
  have hI3 : I 3 = nI len := hJ.2.2.2.2.2.1
  have hI22 : I2 2 = nI len := hJ.2.2.2.2.2.2.1
  have n0 : R 0 = R2 0 := hNm.1
  have n1 : R 1 = qz (R2 0) := hNm.2.1
  have n18 : R 18 = R2 4 := hNm.2.2
  obtain ⟨v1, e1⟩ : ∃ v, xs (i + 1) = v := ⟨_, rfl⟩
  refine lv_aload_n hx hb dL_law_272 rfl (lv_at hl 1 rfl) ?_
  refine lw_arg (q := 1) C0 hS (lv_at hl 0 rfl) (lv_at hl 4 rfl) (by omega) (by decide) dL_law_273 dL_law_274 dL_law_276 dL_law_277 dL_law_278 e1 ?_
  refine lv_aload_n hx hb dL_law_279 rfl (lv_at hl 3 rfl) ?_
  rcases out_01 v1 0 7 with h1 | h1
  · obtain ⟨k, hk, rfl⟩ := out_nat (n := 7) (by decide) h1
    refine lw_hok C0 hS hM (vx_runSW (As := [.ref (ad 0), .int (nI k), .ref ao]) (rest := []) ⟨hx, hb, hml, hown, hts⟩ (h_turn l D T ad I R _ ao g nx ct k hAD hnx hct hI1 hI2 hk hao) (vx_cwSW 3 hts gL_law_L_turn rfl rfl rfl (by decide +kernel) ⟨Nat.le_of_ble_eq_true rfl, Nat.le_of_ble_eq_true rfl⟩) ⟨HB.blind, HB.pre hP hO hK hN rfl⟩ rfl rfl hl.1 rfl (lv_room (Nat.le_of_ble_eq_true rfl)) dL_law_280 ⟨hc0, hs0⟩) (fun u1 H locs hP hO hM hS => ?_)
    refine lv_istore (lv' := [(5, .int 0), (0, .ref b), (1, .ref (ad 0)), (2, .ref (ad2 0)), (3, .ref ao), (4, .int (nI i))]) hx hb dL_law_283 hl (by decide) rfl (fun ls hl => ?_)
    refine lv_aload_n hx hb dL_law_285 rfl (lv_at hl 3 rfl) ?_
    refine lw_arg (q := 1) C0 hS (lv_at hl 1 rfl) (lv_at hl 5 rfl) (by omega) (by decide) dL_law_286 dL_law_287 dL_law_289 dL_law_290 dL_law_291 e1 ?_
    refine lw_mi C0 hS hP hO (va_runV (As := [.int (nI k)]) (rest := []) ⟨hx, hb, hml, hown, hts⟩ (c_X4_turn l D T ad2 I2 R2 _ ct k hAD2 hct hI21 hk) (cwV 1 hts gL_law_X4_turn rfl rfl rfl (by decide +kernel) ⟨Nat.le_of_ble_eq_true rfl, Nat.le_of_ble_eq_true rfl⟩) ⟨MB.blind, va_recv hK hM (ci := 4) (q0 := 0) rfl mw_0, MB.pre hM hK rfl⟩ rfl rfl hl.1 rfl (lv_room (Nat.le_of_ble_eq_true rfl)) dL_law_292 ⟨hc0, hs0⟩) (fun u2 H locs hu hP hO hM hS => ?_)
    refine lv_istore (lv' := [(6, .int _), (5, .int 0), (0, .ref b), (1, .ref (ad 0)), (2, .ref (ad2 0)), (3, .ref ao), (4, .int (nI i))]) hx hb dL_law_295 hl (by decide) rfl (fun ls hl => ?_)
    exact lw_tail C0 hS hP hM hO hl rfl (fun _ => upL_0.trans (congrArg Int32.toInt64 (by rw [n0]))) (st_turn hJ hNm hu) dL_law_297 dL_law_298 dL_law_301 dL_law_303 dL_law_308 dL_law_310 dL_law_313 dL_law_314 dL_law_315 dL_law_316 dL_law_318 dL_law_319 dL_law_320 dL_law_325 rfl (by omega) (by omega) hc0 hs0 kN
  · skip
    refine lw_hth hS hP hM hO (vx_runSW (As := [.ref (ad 0), .int v1, .ref ao]) (rest := []) ⟨hx, hb, hml, hown, hts⟩ (h_turn_t1 l D T ad I R ao hlt v1 h1) (vx_cwSW 3 hts gL_law_L_turn rfl rfl rfl (by decide +kernel) ⟨Nat.le_of_ble_eq_true rfl, Nat.le_of_ble_eq_true rfl⟩) ⟨XN.blind, XN.pre hP hK hN hXU hXZ hNc hS rfl⟩ rfl rfl hl.1 rfl (lv_room (Nat.le_of_ble_eq_true rfl)) dL_law_280 ⟨hc1, hs1⟩) (fun H locs hP hO hM hS => ?_)
    refine lv_istore (lv' := [(5, .int 1), (0, .ref b), (1, .ref (ad 0)), (2, .ref (ad2 0)), (3, .ref ao), (4, .int (nI i))]) hx hb dL_law_283 hl (by decide) rfl (fun ls hl => ?_)
    refine lv_aload_n hx hb dL_law_285 rfl (lv_at hl 3 rfl) ?_
    refine lw_arg (q := 1) C0 hS (lv_at hl 1 rfl) (lv_at hl 5 rfl) (by omega) (by decide) dL_law_286 dL_law_287 dL_law_289 dL_law_290 dL_law_291 e1 ?_
    refine lw_mi C0 hS hP hO (va_runV (As := [.int v1]) (rest := []) ⟨hx, hb, hml, hown, hts⟩ (c_X4_turn_e1 l D T ad2 I2 R2 _ v1 hAD2 h1) (cwV 1 hts gL_law_X4_turn rfl rfl rfl (by decide +kernel) ⟨Nat.le_of_ble_eq_true rfl, Nat.le_of_ble_eq_true rfl⟩) ⟨MB.blind, va_recv hK hM (ci := 4) (q0 := 0) rfl mw_0, MB.pre hM hK rfl⟩ rfl rfl hl.1 rfl (lv_room (Nat.le_of_ble_eq_true rfl)) dL_law_292 ⟨hc1, hs1⟩) (fun u2 H locs hu hP hO hM hS => ?_)
    refine lv_istore (lv' := [(6, .int _), (5, .int 1), (0, .ref b), (1, .ref (ad 0)), (2, .ref (ad2 0)), (3, .ref ao), (4, .int (nI i))]) hx hb dL_law_295 hl (by decide) rfl (fun ls hl => ?_)
    exact lw_tail C0 hS hP hM hO hl rfl (fun h => absurd h (by decide)) (st_same hJ rfl rfl (fun _ _ => rfl) (fun _ _ => rfl)) dL_law_297 dL_law_298 dL_law_301 dL_law_303 dL_law_308 dL_law_310 dL_law_313 dL_law_314 dL_law_315 dL_law_316 dL_law_318 dL_law_319 dL_law_320 dL_law_325 rfl (by omega) (by omega) hc1 hs1 kN
set_option maxHeartbeats 4000000 in
set_option maxRecDepth 100000 in
theorem lc_drop {p : Program} {l : Launch} {e : Env} {s : State} {m : MethodId} {args : Array Value} {below : List Frame} {meth : Method} {c : Code} {H : Heap} {locs : List Loc} {cells slots : Nat} {Q : State → Prop} {D : va_G} {T : Nat → ClassId} {ad ad2 : Nat → Nat} {ao : Nat} {b : Addr} {L : Nat} {xs : Nat → Int32} {ls : Array Slot} {i : Nat} (C0 : LwF p l s m c args D T ad ad2 ao b L xs) (J : LJ D T ad ad2 ao H) (hS : va_S (LwA s) s.heap H locs) (hl : lv_has ls 9 (lwLv b ad ad2 ao i)) (hi : i + 2 < L) (hc : cells + 1 ≤ 649774) (hs : slots + 6 ≤ 7146782) (kN : LwK p l e s m args below meth c Q D T ad ad2 ao b i cells slots) : W p l e room_1 s m args below meth c H locs cells slots Q (F0 m 328 ls []) := by
  have C1 := C0
  obtain ⟨hx, hb, hml, hown, hts, hK, hN, hXU, hXZ, hNc, hAD, hAD2, hap, hao, hao2, hge, hge2, hgo, hX, hbl, hlt, hL⟩ := C1
  obtain ⟨I, R, I2, R2, g, m9, nx, ct, ks, len, hP, hM, hO, hJ, hNm⟩ := lj_norm J
  have hc0 : cells + 0 ≤ room_1.cells := show cells + 0 ≤ 649774 by omega
  have hs0 : slots + 0 ≤ room_1.slots := show slots + 0 ≤ 7146782 by omega
  have hc1 : cells + 1 ≤ room_1.cells := hc
  have hs1 : slots + 6 ≤ room_1.slots := hs
  have hnx : nx < 6 := hJ.2.1.1
  have hct : ct ≤ 6 := hJ.2.1.2.1
  have hI1 : I 1 = nI nx := hJ.2.1.2.2.1
  have hI2 : I 2 = nI ct := hJ.2.1.2.2.2.1
  have hI21 : I2 1 = nI ct := hJ.2.2.1
  have hI4 : I 4 = nI m9 := hJ.1.1
  have hrl : RlW m9 (R2 0) := hJ.1.2.1
  have hm : m9 < 256 := hrl.1
  have hI5 : I 5 = R2 0 24 := hJ.1.2.2.1
  have hbd : BdA (R2 0) := hJ.1.2.2.2.2.2
  have hks : ks < 4 := hJ.2.2.2.1.1
  have hI0 : I 0 = nI ks := hJ.2.2.2.1.2.1
  have hTx : TxT (R2 4) len := hJ.2.2.2.2.1
  have hlen : len ≤ 60 := hTx.1
  have hI3 : I 3 = nI len := hJ.2.2.2.2.2.1
  have hI22 : I2 2 = nI len := hJ.2.2.2.2.2.2.1
  have n0 : R 0 = R2 0 := hNm.1
  have n1 : R 1 = qz (R2 0) := hNm.2.1
  have n18 : R 18 = R2 4 := hNm.2.2
  obtain ⟨v1, e1⟩ : ∃ v, xs (i + 1) = v := ⟨_, rfl⟩
  refine lv_aload_n hx hb dL_law_328 rfl (lv_at hl 1 rfl) ?_
  refine lw_arg (q := 1) C0 hS (lv_at hl 0 rfl) (lv_at hl 4 rfl) (by omega) (by decide) dL_law_329 dL_law_330 dL_law_332 dL_law_333 dL_law_334 e1 ?_
  refine lv_aload_n hx hb dL_law_335 rfl (lv_at hl 3 rfl) ?_
  rcases out_01 v1 1 99 with h1 | h1
  · skip
    refine lw_hok C0 hS hM (vx_runSW (As := [.ref (ad 0), .int v1, .ref ao]) (rest := []) ⟨hx, hb, hml, hown, hts⟩ (h_drop l D T ad I R _ ao g nx ct v1 hAD hnx hct hI1 hI2 h1 hao) (vx_cwSW 3 hts gL_law_L_drop rfl rfl rfl (by decide +kernel) ⟨Nat.le_of_ble_eq_true rfl, Nat.le_of_ble_eq_true rfl⟩) ⟨HB.blind, HB.pre hP hO hK hN rfl⟩ rfl rfl hl.1 rfl (lv_room (Nat.le_of_ble_eq_true rfl)) dL_law_336 ⟨hc0, hs0⟩) (fun u1 H locs hP hO hM hS => ?_)
    refine lv_istore (lv' := [(5, .int 0), (0, .ref b), (1, .ref (ad 0)), (2, .ref (ad2 0)), (3, .ref ao), (4, .int (nI i))]) hx hb dL_law_339 hl (by decide) rfl (fun ls hl => ?_)
    refine lv_aload_n hx hb dL_law_341 rfl (lv_at hl 3 rfl) ?_
    refine lw_arg (q := 1) C0 hS (lv_at hl 1 rfl) (lv_at hl 5 rfl) (by omega) (by decide) dL_law_342 dL_law_343 dL_law_345 dL_law_346 dL_law_347 e1 ?_
    refine lw_mi C0 hS hP hO (va_runV (As := [.int v1]) (rest := []) ⟨hx, hb, hml, hown, hts⟩ (c_X4_drop l D T ad2 I2 R2 _ ct v1 hAD2 hct hI21 h1) (cwV 1 hts gL_law_X4_drop rfl rfl rfl (by decide +kernel) ⟨Nat.le_of_ble_eq_true rfl, Nat.le_of_ble_eq_true rfl⟩) ⟨MB.blind, va_recv hK hM (ci := 4) (q0 := 0) rfl mw_0, MB.pre hM hK rfl⟩ rfl rfl hl.1 rfl (lv_room (Nat.le_of_ble_eq_true rfl)) dL_law_348 ⟨hc0, hs0⟩) (fun u2 H locs hu hP hO hM hS => ?_)
    refine lv_istore (lv' := [(6, .int _), (5, .int 0), (0, .ref b), (1, .ref (ad 0)), (2, .ref (ad2 0)), (3, .ref ao), (4, .int (nI i))]) hx hb dL_law_351 hl (by decide) rfl (fun ls hl => ?_)
    exact lw_tail C0 hS hP hM hO hl rfl (fun _ => upL_0.trans (congrArg Int32.toInt64 (by rw [n0]; exact (rl_do v1).symm))) (st_drop hJ hNm hu) dL_law_353 dL_law_354 dL_law_357 dL_law_359 dL_law_364 dL_law_366 dL_law_369 dL_law_370 dL_law_371 dL_law_372 dL_law_374 dL_law_375 dL_law_376 dL_law_381 rfl (by omega) (by omega) hc0 hs0 kN
  · skip
    refine lw_hth hS hP hM hO (vx_runSW (As := [.ref (ad 0), .int v1, .ref ao]) (rest := []) ⟨hx, hb, hml, hown, hts⟩ (h_drop_t1 l D T ad I R ao hlt v1 h1) (vx_cwSW 3 hts gL_law_L_drop rfl rfl rfl (by decide +kernel) ⟨Nat.le_of_ble_eq_true rfl, Nat.le_of_ble_eq_true rfl⟩) ⟨XN.blind, XN.pre hP hK hN hXU hXZ hNc hS rfl⟩ rfl rfl hl.1 rfl (lv_room (Nat.le_of_ble_eq_true rfl)) dL_law_336 ⟨hc1, hs1⟩) (fun H locs hP hO hM hS => ?_)
    refine lv_istore (lv' := [(5, .int 1), (0, .ref b), (1, .ref (ad 0)), (2, .ref (ad2 0)), (3, .ref ao), (4, .int (nI i))]) hx hb dL_law_339 hl (by decide) rfl (fun ls hl => ?_)
    refine lv_aload_n hx hb dL_law_341 rfl (lv_at hl 3 rfl) ?_
    refine lw_arg (q := 1) C0 hS (lv_at hl 1 rfl) (lv_at hl 5 rfl) (by omega) (by decide) dL_law_342 dL_law_343 dL_law_345 dL_law_346 dL_law_347 e1 ?_
    refine lw_mi C0 hS hP hO (va_runV (As := [.int v1]) (rest := []) ⟨hx, hb, hml, hown, hts⟩ (c_X4_drop_e1 l D T ad2 I2 R2 _ v1 hAD2 h1) (cwV 1 hts gL_law_X4_drop rfl rfl rfl (by decide +kernel) ⟨Nat.le_of_ble_eq_true rfl, Nat.le_of_ble_eq_true rfl⟩) ⟨MB.blind, va_recv hK hM (ci := 4) (q0 := 0) rfl mw_0, MB.pre hM hK rfl⟩ rfl rfl hl.1 rfl (lv_room (Nat.le_of_ble_eq_true rfl)) dL_law_348 ⟨hc1, hs1⟩) (fun u2 H locs hu hP hO hM hS => ?_)
    refine lv_istore (lv' := [(6, .int _), (5, .int 1), (0, .ref b), (1, .ref (ad 0)), (2, .ref (ad2 0)), (3, .ref ao), (4, .int (nI i))]) hx hb dL_law_351 hl (by decide) rfl (fun ls hl => ?_)
    exact lw_tail C0 hS hP hM hO hl rfl (fun h => absurd h (by decide)) (st_same hJ rfl rfl (fun _ _ => rfl) (fun _ _ => rfl)) dL_law_353 dL_law_354 dL_law_357 dL_law_359 dL_law_364 dL_law_366 dL_law_369 dL_law_370 dL_law_371 dL_law_372 dL_law_374 dL_law_375 dL_law_376 dL_law_381 rfl (by omega) (by omega) hc1 hs1 kN
set_option maxHeartbeats 4000000 in
set_option maxRecDepth 100000 in
theorem lc_point {p : Program} {l : Launch} {e : Env} {s : State} {m : MethodId} {args : Array Value} {below : List Frame} {meth : Method} {c : Code} {H : Heap} {locs : List Loc} {cells slots : Nat} {Q : State → Prop} {D : va_G} {T : Nat → ClassId} {ad ad2 : Nat → Nat} {ao : Nat} {b : Addr} {L : Nat} {xs : Nat → Int32} {ls : Array Slot} {i : Nat} (C0 : LwF p l s m c args D T ad ad2 ao b L xs) (J : LJ D T ad ad2 ao H) (hS : va_S (LwA s) s.heap H locs) (hl : lv_has ls 9 (lwLv b ad ad2 ao i)) (hi : i + 2 < L) (hc : cells + 1 ≤ 649774) (hs : slots + 6 ≤ 7146782) (kN : LwK p l e s m args below meth c Q D T ad ad2 ao b i cells slots) : W p l e room_1 s m args below meth c H locs cells slots Q (F0 m 384 ls []) := by
  have C1 := C0
  obtain ⟨hx, hb, hml, hown, hts, hK, hN, hXU, hXZ, hNc, hAD, hAD2, hap, hao, hao2, hge, hge2, hgo, hX, hbl, hlt, hL⟩ := C1
  obtain ⟨I, R, I2, R2, g, m9, nx, ct, ks, len, hP, hM, hO, hJ, hNm⟩ := lj_norm J
  have hc0 : cells + 0 ≤ room_1.cells := show cells + 0 ≤ 649774 by omega
  have hs0 : slots + 0 ≤ room_1.slots := show slots + 0 ≤ 7146782 by omega
  have hc1 : cells + 1 ≤ room_1.cells := hc
  have hs1 : slots + 6 ≤ room_1.slots := hs
  have hnx : nx < 6 := hJ.2.1.1
  have hct : ct ≤ 6 := hJ.2.1.2.1
  have hI1 : I 1 = nI nx := hJ.2.1.2.2.1
  have hI2 : I 2 = nI ct := hJ.2.1.2.2.2.1
  have hI21 : I2 1 = nI ct := hJ.2.2.1
  have hI4 : I 4 = nI m9 := hJ.1.1
  have hrl : RlW m9 (R2 0) := hJ.1.2.1
  have hm : m9 < 256 := hrl.1
  have hI5 : I 5 = R2 0 24 := hJ.1.2.2.1
  have hbd : BdA (R2 0) := hJ.1.2.2.2.2.2
  have hks : ks < 4 := hJ.2.2.2.1.1
  have hI0 : I 0 = nI ks := hJ.2.2.2.1.2.1
  have hTx : TxT (R2 4) len := hJ.2.2.2.2.1
  have hlen : len ≤ 60 := hTx.1
  have hI3 : I 3 = nI len := hJ.2.2.2.2.2.1
  have hI22 : I2 2 = nI len := hJ.2.2.2.2.2.2.1
  have n0 : R 0 = R2 0 := hNm.1
  have n1 : R 1 = qz (R2 0) := hNm.2.1
  have n18 : R 18 = R2 4 := hNm.2.2
  obtain ⟨v1, e1⟩ : ∃ v, xs (i + 1) = v := ⟨_, rfl⟩
  obtain ⟨v2, e2⟩ : ∃ v, xs (i + 2) = v := ⟨_, rfl⟩
  refine lv_aload_n hx hb dL_law_384 rfl (lv_at hl 1 rfl) ?_
  refine lw_arg (q := 1) C0 hS (lv_at hl 0 rfl) (lv_at hl 4 rfl) (by omega) (by decide) dL_law_385 dL_law_386 dL_law_388 dL_law_389 dL_law_390 e1 ?_
  refine lw_arg (q := 2) C0 hS (lv_at hl 0 rfl) (lv_at hl 4 rfl) (by omega) (by decide) dL_law_391 dL_law_392 dL_law_394 dL_law_395 dL_law_396 e2 ?_
  refine lv_aload_n hx hb dL_law_397 rfl (lv_at hl 3 rfl) ?_
  rcases out_01 v1 0 7 with h1 | h1
  · obtain ⟨k, hk, rfl⟩ := out_nat (n := 7) (by decide) h1
    rcases out_01 v2 (-9999) 9999 with h2 | h2
    · skip
      refine lw_hok C0 hS hM (vx_runSW (As := [.ref (ad 0), .int (nI k), .int v2, .ref ao]) (rest := []) ⟨hx, hb, hml, hown, hts⟩ (h_point l D T ad I R _ ao g nx ct k v2 hAD hnx hct hI1 hI2 hk h2 hao) (vx_cwSW 4 hts gL_law_L_point rfl rfl rfl (by decide +kernel) ⟨Nat.le_of_ble_eq_true rfl, Nat.le_of_ble_eq_true rfl⟩) ⟨HB.blind, HB.pre hP hO hK hN rfl⟩ rfl rfl hl.1 rfl (lv_room (Nat.le_of_ble_eq_true rfl)) dL_law_398 ⟨hc0, hs0⟩) (fun u1 H locs hP hO hM hS => ?_)
      refine lv_istore (lv' := [(5, .int 0), (0, .ref b), (1, .ref (ad 0)), (2, .ref (ad2 0)), (3, .ref ao), (4, .int (nI i))]) hx hb dL_law_401 hl (by decide) rfl (fun ls hl => ?_)
      refine lv_aload_n hx hb dL_law_403 rfl (lv_at hl 3 rfl) ?_
      refine lw_arg (q := 1) C0 hS (lv_at hl 1 rfl) (lv_at hl 5 rfl) (by omega) (by decide) dL_law_404 dL_law_405 dL_law_407 dL_law_408 dL_law_409 e1 ?_
      refine lw_arg (q := 2) C0 hS (lv_at hl 1 rfl) (lv_at hl 5 rfl) (by omega) (by decide) dL_law_410 dL_law_411 dL_law_413 dL_law_414 dL_law_415 e2 ?_
      refine lw_mi C0 hS hP hO (va_runV (As := [.int (nI k), .int v2]) (rest := []) ⟨hx, hb, hml, hown, hts⟩ (c_X4_point l D T ad2 I2 R2 _ ct k v2 hAD2 hct hI21 hk h2) (cwV 2 hts gL_law_X4_point rfl rfl rfl (by decide +kernel) ⟨Nat.le_of_ble_eq_true rfl, Nat.le_of_ble_eq_true rfl⟩) ⟨MB.blind, va_recv hK hM (ci := 4) (q0 := 0) rfl mw_0, MB.pre hM hK rfl⟩ rfl rfl hl.1 rfl (lv_room (Nat.le_of_ble_eq_true rfl)) dL_law_416 ⟨hc0, hs0⟩) (fun u2 H locs hu hP hO hM hS => ?_)
      refine lv_istore (lv' := [(6, .int _), (5, .int 0), (0, .ref b), (1, .ref (ad 0)), (2, .ref (ad2 0)), (3, .ref ao), (4, .int (nI i))]) hx hb dL_law_419 hl (by decide) rfl (fun ls hl => ?_)
      exact lw_tail C0 hS hP hM hO hl rfl (fun _ => upL_0.trans (congrArg Int32.toInt64 (congrFun n1 k))) (st_point hJ hNm hu hk) dL_law_421 dL_law_422 dL_law_425 dL_law_427 dL_law_432 dL_law_434 dL_law_437 dL_law_438 dL_law_439 dL_law_440 dL_law_442 dL_law_443 dL_law_444 dL_law_449 rfl (by omega) (by omega) hc0 hs0 kN
    · skip
      refine lw_hth hS hP hM hO (vx_runSW (As := [.ref (ad 0), .int (nI k), .int v2, .ref ao]) (rest := []) ⟨hx, hb, hml, hown, hts⟩ (h_point_t2 l D T ad I R ao hlt k v2 hk h2) (vx_cwSW 4 hts gL_law_L_point rfl rfl rfl (by decide +kernel) ⟨Nat.le_of_ble_eq_true rfl, Nat.le_of_ble_eq_true rfl⟩) ⟨XN.blind, XN.pre hP hK hN hXU hXZ hNc hS rfl⟩ rfl rfl hl.1 rfl (lv_room (Nat.le_of_ble_eq_true rfl)) dL_law_398 ⟨hc1, hs1⟩) (fun H locs hP hO hM hS => ?_)
      refine lv_istore (lv' := [(5, .int 2), (0, .ref b), (1, .ref (ad 0)), (2, .ref (ad2 0)), (3, .ref ao), (4, .int (nI i))]) hx hb dL_law_401 hl (by decide) rfl (fun ls hl => ?_)
      refine lv_aload_n hx hb dL_law_403 rfl (lv_at hl 3 rfl) ?_
      refine lw_arg (q := 1) C0 hS (lv_at hl 1 rfl) (lv_at hl 5 rfl) (by omega) (by decide) dL_law_404 dL_law_405 dL_law_407 dL_law_408 dL_law_409 e1 ?_
      refine lw_arg (q := 2) C0 hS (lv_at hl 1 rfl) (lv_at hl 5 rfl) (by omega) (by decide) dL_law_410 dL_law_411 dL_law_413 dL_law_414 dL_law_415 e2 ?_
      refine lw_mi C0 hS hP hO (va_runV (As := [.int (nI k), .int v2]) (rest := []) ⟨hx, hb, hml, hown, hts⟩ (c_X4_point_e2 l D T ad2 I2 R2 _ k v2 hAD2 hk h2) (cwV 2 hts gL_law_X4_point rfl rfl rfl (by decide +kernel) ⟨Nat.le_of_ble_eq_true rfl, Nat.le_of_ble_eq_true rfl⟩) ⟨MB.blind, va_recv hK hM (ci := 4) (q0 := 0) rfl mw_0, MB.pre hM hK rfl⟩ rfl rfl hl.1 rfl (lv_room (Nat.le_of_ble_eq_true rfl)) dL_law_416 ⟨hc1, hs1⟩) (fun u2 H locs hu hP hO hM hS => ?_)
      refine lv_istore (lv' := [(6, .int _), (5, .int 2), (0, .ref b), (1, .ref (ad 0)), (2, .ref (ad2 0)), (3, .ref ao), (4, .int (nI i))]) hx hb dL_law_419 hl (by decide) rfl (fun ls hl => ?_)
      exact lw_tail C0 hS hP hM hO hl rfl (fun h => absurd h (by decide)) (st_same hJ rfl rfl (fun _ _ => rfl) (fun _ _ => rfl)) dL_law_421 dL_law_422 dL_law_425 dL_law_427 dL_law_432 dL_law_434 dL_law_437 dL_law_438 dL_law_439 dL_law_440 dL_law_442 dL_law_443 dL_law_444 dL_law_449 rfl (by omega) (by omega) hc1 hs1 kN
  · skip
    refine lw_hth hS hP hM hO (vx_runSW (As := [.ref (ad 0), .int v1, .int v2, .ref ao]) (rest := []) ⟨hx, hb, hml, hown, hts⟩ (h_point_t1 l D T ad I R ao hlt v1 v2 h1) (vx_cwSW 4 hts gL_law_L_point rfl rfl rfl (by decide +kernel) ⟨Nat.le_of_ble_eq_true rfl, Nat.le_of_ble_eq_true rfl⟩) ⟨XN.blind, XN.pre hP hK hN hXU hXZ hNc hS rfl⟩ rfl rfl hl.1 rfl (lv_room (Nat.le_of_ble_eq_true rfl)) dL_law_398 ⟨hc1, hs1⟩) (fun H locs hP hO hM hS => ?_)
    refine lv_istore (lv' := [(5, .int 1), (0, .ref b), (1, .ref (ad 0)), (2, .ref (ad2 0)), (3, .ref ao), (4, .int (nI i))]) hx hb dL_law_401 hl (by decide) rfl (fun ls hl => ?_)
    refine lv_aload_n hx hb dL_law_403 rfl (lv_at hl 3 rfl) ?_
    refine lw_arg (q := 1) C0 hS (lv_at hl 1 rfl) (lv_at hl 5 rfl) (by omega) (by decide) dL_law_404 dL_law_405 dL_law_407 dL_law_408 dL_law_409 e1 ?_
    refine lw_arg (q := 2) C0 hS (lv_at hl 1 rfl) (lv_at hl 5 rfl) (by omega) (by decide) dL_law_410 dL_law_411 dL_law_413 dL_law_414 dL_law_415 e2 ?_
    refine lw_mi C0 hS hP hO (va_runV (As := [.int v1, .int v2]) (rest := []) ⟨hx, hb, hml, hown, hts⟩ (c_X4_point_e1 l D T ad2 I2 R2 _ v1 v2 hAD2 h1) (cwV 2 hts gL_law_X4_point rfl rfl rfl (by decide +kernel) ⟨Nat.le_of_ble_eq_true rfl, Nat.le_of_ble_eq_true rfl⟩) ⟨MB.blind, va_recv hK hM (ci := 4) (q0 := 0) rfl mw_0, MB.pre hM hK rfl⟩ rfl rfl hl.1 rfl (lv_room (Nat.le_of_ble_eq_true rfl)) dL_law_416 ⟨hc1, hs1⟩) (fun u2 H locs hu hP hO hM hS => ?_)
    refine lv_istore (lv' := [(6, .int _), (5, .int 1), (0, .ref b), (1, .ref (ad 0)), (2, .ref (ad2 0)), (3, .ref ao), (4, .int (nI i))]) hx hb dL_law_419 hl (by decide) rfl (fun ls hl => ?_)
    exact lw_tail C0 hS hP hM hO hl rfl (fun h => absurd h (by decide)) (st_same hJ rfl rfl (fun _ _ => rfl) (fun _ _ => rfl)) dL_law_421 dL_law_422 dL_law_425 dL_law_427 dL_law_432 dL_law_434 dL_law_437 dL_law_438 dL_law_439 dL_law_440 dL_law_442 dL_law_443 dL_law_444 dL_law_449 rfl (by omega) (by omega) hc1 hs1 kN

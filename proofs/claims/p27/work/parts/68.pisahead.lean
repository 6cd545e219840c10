set_option maxHeartbeats 1500000 in
set_option maxRecDepth 100000 in
theorem c_L_isAhead (l : Launch) (D : va_G) (T : Nat → ClassId) (ad : Nat → Nat) (I : Nat → Int32) (R : Nat → Nat → Int32) (sz : Nat) (lm : Nat) (x : Int32) (hAD : AD 39 ad) (hm : lm < 256) (hI : I 4 = nI lm) (h0 : R 0 = R 20) (h1 : R 1 = R 22) (hb1 : R 21 = lbI lm) (hbd : BdA (R 20)) (hbp : BdP (R 22)) (ht : R 23 = fun n => trS (dr (R 20) lm) n 8) (hx9 : outI x 0 9999999 = 0) (hlt : l.stackTraces = false) : Met l yL_isAhead wsL_isAhead ({ frames := 8, cells := 5, slots := 30, locals := 128 }) (va_Pc [.ref (ad 0), .int x, .ref (ad 34), .ref (ad 35), .ref (ad 36), .ref (ad 37)] (PB D T ad I R sz)) (va_Qi (fun r (u : Nat → Int32) => r = 1 ∧ True) (fun (u : Nat → Int32) t => va_P D vwCl (pw T ad I (updR R 19 u)) t.heap) (cA 39 ad sz)) 5 30 (cA 39 ad sz) := by
  refine Met.ofW (cc := cL_isAhead) (maxL := 12) (ret := (some .boolean)) (by decide) rfl ?_
  intro p e s m args_ below meth c s₁ B hml hv
  obtain ⟨rfl, hsz, hP, hK, hN, hXU, hXZ, hNc⟩ := hv
  have hx := B.exec
  have hb := B.bytes
  have hr := B.returns
  have hts := atoms_spec (ws := wsL_isAhead) B.pre
  have hown : s.vm.findClass RL = some m.cls := findClass_of_methodNamed B.named
  have hlocks := B.notSynchronized
  subst hsz
  have hS : va_S (cA 39 ad s.heap.size) s.heap s.heap [] := va_S.rf
  have hD : ∀ I R, va_D (cA 39 ad s.heap.size) (pw T ad I R) := fun I R => pw_D hAD (fun k hk => cA_in hk)
  have hl := lv_entry ([.ref (ad 0), .int x, .ref (ad 34), .ref (ad 35), .ref (ad 36), .ref (ad 37)]) (n := 12) (Nat.le_of_ble_eq_true rfl)
  rw [lg_entry_eq]
  generalize (lg_sl ([.ref (ad 0), .int x, .ref (ad 34), .ref (ad 35), .ref (ad 36), .ref (ad 37)]) ++ List.replicate (12 - (lg_sl ([.ref (ad 0), .int x, .ref (ad 34), .ref (ad 35), .ref (ad 36), .ref (ad 37)])).length) Slot.unset).toArray = ls at hl ⊢
  have hl : lv_has ls 12 [(0, .ref (ad 0)), (1, .int x), (2, .ref (ad 34)), (3, .ref (ad 35)), (4, .ref (ad 36)), (5, .ref (ad 37))] := hl
  have hda := dr_bd hbd lm
  have hg0 : ((fun z9 => dtS (R 22) (dr (R 20) lm) z9 8) 0).toInt < 1073741824 := by have h := dt_bd hbp hda 0 8 (by decide); show (dtS (R 22) (dr (R 20) lm) 0 8).toInt < _; omega
  have hbt : lbT (fun z9 => dtS (R 22) (dr (R 20) lm) z9 8) 8 = btS (fun z9 => dtS (R 22) (dr (R 20) lm) z9 8) 7 := (bt_law (g := (fun z9 => dtS (R 22) (dr (R 20) lm) z9 8)) hg0 7).1
  refine lv_bipush (v := 8) hx hb dL_isAhead_0 (by decide) ?_
  refine lv_istore (lv' := [(6, .int 8), (0, .ref (ad 0)), (1, .int x), (2, .ref (ad 34)), (3, .ref (ad 35)), (4, .ref (ad 36)), (5, .ref (ad 37))]) hx hb dL_isAhead_2 hl (by decide) rfl (fun ls hl => ?_)
  refine lv_iconst (v := 0) hx hb dL_isAhead_4 (by decide) ?_
  refine lv_istore (lv' := [(7, .int 0), (6, .int 8), (0, .ref (ad 0)), (1, .int x), (2, .ref (ad 34)), (3, .ref (ad 35)), (4, .ref (ad 36)), (5, .ref (ad 37))]) hx hb dL_isAhead_5 hl (by decide) rfl (fun ls hl => ?_)
  suffices ih_7 : ∀ (fu : Nat) (K : Nat) (H : Heap) (locs : List Loc) (ls : Array Slot), 256 - K < fu → (K ≤ 256) → va_P D vwCl (pw T ad I R) H →  va_S (cA 39 ad s.heap.size) s.heap H locs → lv_has ls 12 [(0, .ref (ad 0)), (1, .int x), (2, .ref (ad 34)), (3, .ref (ad 35)), (4, .ref (ad 36)), (5, .ref (ad 37)), (6, .int (lfS (dr (R 20) lm) x K)), (7, .int (nI K))] → W p l e (headSpec wsL_isAhead ({ frames := 8, cells := 5, slots := 30, locals := 128 })).room s m ([.ref (ad 0), .int x, .ref (ad 34), .ref (ad 35), .ref (ad 36), .ref (ad 37)] : List Value).toArray below meth c H locs 0 0 (MQ below (va_Qi (fun r (u : Nat → Int32) => r = 1 ∧ True) (fun (u : Nat → Int32) t => va_P D vwCl (pw T ad I (updR R 19 u)) t.heap) (cA 39 ad s.heap.size)) ([.ref (ad 0), .int x, .ref (ad 34), .ref (ad 35), .ref (ad 36), .ref (ad 37)] : List Value).toArray s 5 30 (cA 39 ad s.heap.size)) (F0 m 7 ls []) from
    ih_7 _ 0 _ _ _ (Nat.lt_succ_self _) (by omega) hP hS (lv_sub hl [2, 3, 4, 5, 6, 7, 1, 0] rfl)
  intro fu
  induction fu with
  | zero => intro K H locs ls hfu; exact absurd hfu (Nat.not_lt_zero _)
  | succ fu ih_7 =>
    intro K H locs ls hfu hK2 hP hS hl
    refine lv_iload hx hb dL_isAhead_7 (lv_at hl 7 rfl) ?_
    refine lv_sipush (v := 256) hx hb dL_isAhead_9 (by decide) ?_
    refine lv_icmp_ge (tgt := 136) hx hb dL_isAhead_12 (by decide) (fun c_12 => ?_) (fun c_12 => ?_)
    · have c_12 : 256 ≤ K := (nI_leI (a := 256) (b := K) (by omega) (by omega)).mp c_12
      obtain rfl : K = 256 := by omega
      refine lv_iconst (v := 0) hx hb dL_isAhead_136 (by decide) ?_
      refine lv_istore (lv' := [(7, .int 0), (0, .ref (ad 0)), (1, .int x), (2, .ref (ad 34)), (3, .ref (ad 35)), (4, .ref (ad 36)), (5, .ref (ad 37)), (6, .int (lfS (dr (R 20) lm) x 256))]) hx hb dL_isAhead_137 hl (by decide) rfl (fun ls hl => ?_)
      refine lv_ldc (v := 1073741824) hx hb hown (hts (.constant RL 84 (1073741824)) (by decide +kernel)) dL_isAhead_139 ?_
      refine lv_istore (lv' := [(8, .int 1073741824), (7, .int 0), (0, .ref (ad 0)), (1, .int x), (2, .ref (ad 34)), (3, .ref (ad 35)), (4, .ref (ad 36)), (5, .ref (ad 37)), (6, .int (lfS (dr (R 20) lm) x 256))]) hx hb dL_isAhead_141 hl (by decide) rfl (fun ls hl => ?_)
      refine lv_iconst (v := 0) hx hb dL_isAhead_143 (by decide) ?_
      refine lv_istore (lv' := [(9, .int 0), (8, .int 1073741824), (7, .int 0), (0, .ref (ad 0)), (1, .int x), (2, .ref (ad 34)), (3, .ref (ad 35)), (4, .ref (ad 36)), (5, .ref (ad 37)), (6, .int (lfS (dr (R 20) lm) x 256))]) hx hb dL_isAhead_144 hl (by decide) rfl (fun ls hl => ?_)
      suffices ih_146 : ∀ (fu : Nat) (b : Nat) (H : Heap) (locs : List Loc) (ls : Array Slot), 8 - b < fu → (b ≤ 8) → va_P D vwCl (pw T ad I R) H →  va_S (cA 39 ad s.heap.size) s.heap H locs → lv_has ls 12 [(0, .ref (ad 0)), (1, .int x), (2, .ref (ad 34)), (3, .ref (ad 35)), (4, .ref (ad 36)), (5, .ref (ad 37)), (6, .int (lfS (dr (R 20) lm) x 256)), (7, .int (nI (lbT (fun z9 => dtS (R 22) (dr (R 20) lm) z9 8) b))), (8, .int (lsT (fun z9 => dtS (R 22) (dr (R 20) lm) z9 8) b)), (9, .int (nI b))] → W p l e (headSpec wsL_isAhead ({ frames := 8, cells := 5, slots := 30, locals := 128 })).room s m ([.ref (ad 0), .int x, .ref (ad 34), .ref (ad 35), .ref (ad 36), .ref (ad 37)] : List Value).toArray below meth c H locs 0 0 (MQ below (va_Qi (fun r (u : Nat → Int32) => r = 1 ∧ True) (fun (u : Nat → Int32) t => va_P D vwCl (pw T ad I (updR R 19 u)) t.heap) (cA 39 ad s.heap.size)) ([.ref (ad 0), .int x, .ref (ad 34), .ref (ad 35), .ref (ad 36), .ref (ad 37)] : List Value).toArray s 5 30 (cA 39 ad s.heap.size)) (F0 m 146 ls []) from
        ih_146 _ 0 _ _ _ (Nat.lt_succ_self _) (by omega) hP hS (lv_sub hl [3, 4, 5, 6, 7, 8, 9, 2, 1, 0] rfl)
      intro fu
      induction fu with
      | zero => intro b H locs ls hfu; exact absurd hfu (Nat.not_lt_zero _)
      | succ fu ih_146 =>
        intro b H locs ls hfu hb9 hP hS hl
        refine lv_iload hx hb dL_isAhead_146 (lv_at hl 9 rfl) ?_
        refine lv_bipush (v := 8) hx hb dL_isAhead_148 (by decide) ?_
        refine lv_icmp_ge (tgt := 253) hx hb dL_isAhead_150 (by decide) (fun c_150 => ?_) (fun c_150 => ?_)
        · have c_150 : 8 ≤ b := (nI_leI (a := 8) (b := b) (by omega) (by omega)).mp c_150
          obtain rfl : b = 8 := by omega
          refine lv_aload_n hx hb dL_isAhead_253 rfl (lv_at hl 0 rfl) ?_
          refine lv_iload_n hx hb dL_isAhead_254 rfl (lv_at hl 1 rfl) ?_
          refine lv_iconst (v := 0) hx hb dL_isAhead_255 (by decide) ?_
          refine cx_wi (va_runV (As := [.int x, .int 0]) (rest := []) ⟨hx, hb, hml, hown, hts⟩ (c_X3_enough l D T ad I R _ lm x 0 (AD_le hAD (by decide)) (hm) (hI) (hx9) (by decide)) (cwV 2 hts gL_isAhead_X3_enough rfl rfl rfl (by decide +kernel) ⟨Nat.le_of_ble_eq_true rfl, Nat.le_of_ble_eq_true rfl⟩) ⟨CB.blind, va_recv hK hP (ci := 3) (q0 := 0) rfl pw_0, CB.pre (pw_c hP) hK hN rfl⟩ rfl rfl hl.1 rfl (lv_room (Nat.le_of_ble_eq_true rfl)) dL_isAhead_256 ⟨Nat.le_of_ble_eq_true rfl, Nat.le_of_ble_eq_true rfl⟩) hS (cA_sub (fun j hj => cA_in (by omega)) (fun q hq => cA_new (Nat.le_trans hS.1 hq))) (cA_sub (fun j hj => cA_in (by omega)) (fun q hq => cA_new (Nat.le_trans hS.1 hq))) (fun u_256 H locs hu_256 hP1 hkk hS => ?_)
          refine cx_top (y := (feF (erF ((R 0)) lm) x 0)) rfl ?_
          have hP := pw_join19 hAD hP hkk hP1
          refine lv_iload hx hb dL_isAhead_259 (lv_at hl 6 rfl) ?_
          refine lv_icmp_ne (tgt := 347) hx hb dL_isAhead_261 (by decide) (fun c_261 => ?_) (fun c_261 => ?_)
          · exact absurd (show feF (erF (R 0) lm) x 0 = _ from by rw [h0]; exact fe_law hbd lm hx9 (by decide)) c_261
          · refine lv_aload_n hx hb dL_isAhead_264 rfl (lv_at hl 0 rfl) ?_
            refine lv_iload_n hx hb dL_isAhead_265 rfl (lv_at hl 1 rfl) ?_
            refine lv_iconst (v := 1) hx hb dL_isAhead_266 (by decide) ?_
            refine cx_wi (va_runV (As := [.int x, .int 1]) (rest := []) ⟨hx, hb, hml, hown, hts⟩ (c_X3_enough l D T ad I (updR R 19 u_256) _ lm x 1 (AD_le hAD (by decide)) (hm) (hI) (hx9) (by decide)) (cwV 2 hts gL_isAhead_X3_enough rfl rfl rfl (by decide +kernel) ⟨Nat.le_of_ble_eq_true rfl, Nat.le_of_ble_eq_true rfl⟩) ⟨CB.blind, va_recv hK hP (ci := 3) (q0 := 0) rfl pw_0, CB.pre (pw_c hP) hK hN rfl⟩ rfl rfl hl.1 rfl (lv_room (Nat.le_of_ble_eq_true rfl)) dL_isAhead_267 ⟨Nat.le_of_ble_eq_true rfl, Nat.le_of_ble_eq_true rfl⟩) hS (cA_sub (fun j hj => cA_in (by omega)) (fun q hq => cA_new (Nat.le_trans hS.1 hq))) (cA_sub (fun j hj => cA_in (by omega)) (fun q hq => cA_new (Nat.le_trans hS.1 hq))) (fun u_267 H locs hu_267 hP1 hkk hS => ?_)
            refine cx_top (y := (feF (erF ((R 0)) lm) x 1)) rfl ?_
            have hP := pw_join19 hAD hP hkk hP1
            have hP := updP hP
            refine lv_iload hx hb dL_isAhead_270 (lv_at hl 6 rfl) ?_
            refine lv_icmp_ne (tgt := 347) hx hb dL_isAhead_272 (by decide) (fun c_272 => ?_) (fun c_272 => ?_)
            · exact absurd (show feF (erF (R 0) lm) x 1 = _ from by rw [h0]; exact fe_law hbd lm hx9 (by decide)) c_272
            · refine lv_aload_n hx hb dL_isAhead_275 rfl (lv_at hl 0 rfl) ?_
              refine cx_ri (va_runV (As := []) (rest := []) ⟨hx, hb, hml, hown, hts⟩ (c_X3_bestTurn l D T ad I (updR R 19 u_267) lm (hm) (hI)) (cwV 0 hts gL_isAhead_X3_bestTurn rfl rfl rfl (by decide +kernel) ⟨Nat.le_of_ble_eq_true rfl, Nat.le_of_ble_eq_true rfl⟩) ⟨CR.blind, va_recv hK hP (ci := 3) (q0 := 0) rfl pw_0, CR.pre (pw_c hP) hK hN rfl⟩ rfl rfl hl.1 rfl (lv_room (Nat.le_of_ble_eq_true rfl)) dL_isAhead_276 ⟨Nat.le_of_ble_eq_true rfl, Nat.le_of_ble_eq_true rfl⟩) hS hP (fun H locs hP hS => ?_)
              refine cx_top (y := (nI (btS (fun b => dtS ((R 1)) (dr ((R 0)) lm) b 8) 7))) rfl ?_
              refine cx_top (show (nI (btS (fun b => dtS ((R 1)) (dr ((R 0)) lm) b 8) 7)) = (nI (lbT (fun z9 => dtS (R 22) (dr (R 20) lm) z9 8) 8)) from by rw [h0, h1, hbt]) ?_
              refine lv_iload hx hb dL_isAhead_279 (lv_at hl 7 rfl) ?_
              have hb8 : lbT (fun z9 => dtS (R 22) (dr (R 20) lm) z9 8) 8 ≤ 7 := by rw [hbt]; exact bt_le _ 7
              refine lv_icmp_ne (tgt := 347) hx hb dL_isAhead_281 (by decide) (fun c_281 => ?_) (fun c_281 => ?_)
              · have c_281 : ¬ ((lbT (fun z9 => dtS (R 22) (dr (R 20) lm) z9 8) 8) = (lbT (fun z9 => dtS (R 22) (dr (R 20) lm) z9 8) 8)) := fun h => c_281 ((nI_eq (a := (lbT (fun z9 => dtS (R 22) (dr (R 20) lm) z9 8) 8)) (b := (lbT (fun z9 => dtS (R 22) (dr (R 20) lm) z9 8) 8)) (by omega) (by omega)).mpr h)
                exact absurd rfl c_281
              · have c_281 : (lbT (fun z9 => dtS (R 22) (dr (R 20) lm) z9 8) 8) = (lbT (fun z9 => dtS (R 22) (dr (R 20) lm) z9 8) 8) := (nI_eq (a := (lbT (fun z9 => dtS (R 22) (dr (R 20) lm) z9 8) 8)) (b := (lbT (fun z9 => dtS (R 22) (dr (R 20) lm) z9 8) 8)) (by omega) (by omega)).mp c_281
                refine lv_aload_n hx hb dL_isAhead_284 rfl (lv_at hl 0 rfl) ?_
                refine lv_iconst (v := (-1)) hx hb dL_isAhead_285 (by decide) ?_
                refine lv_iconst (v := 0) hx hb dL_isAhead_286 (by decide) ?_
                refine cx_rm (vx_runSW (As := [.ref (ad 0), .int (-1), .int 0]) (rest := []) ⟨hx, hb, hml, hown, hts⟩ (h_enough_t1 l D T ad I (updR R 19 u_267) hlt (-1) 0 (by decide)) (vx_cwSW 3 hts gL_isAhead_L_enough rfl rfl rfl (by decide +kernel) ⟨Nat.le_of_ble_eq_true rfl, Nat.le_of_ble_eq_true rfl⟩) ⟨XN.blind, XN.pre (pw_c hP) hK hN hXU hXZ hNc hS rfl⟩ rfl rfl hl.1 rfl (lv_room (Nat.le_of_ble_eq_true rfl)) dL_isAhead_287 ⟨Nat.le_of_ble_eq_true rfl, Nat.le_of_ble_eq_true rfl⟩) hS (fun H locs hkk hS => ?_)
                have hP := cx_keep hP hkk
                refine W.widen (k := 1) (n := 6) (by decide) (by decide) ?_
                refine lv_bipush (v := (-32)) hx hb dL_isAhead_290 (by decide) ?_
                refine lv_icmp_ne (tgt := 347) hx hb dL_isAhead_292 (by decide) (fun c_292 => absurd c_292 (by decide)) (fun c_292 => ?_)
                refine lv_aload_n hx hb dL_isAhead_295 rfl (lv_at hl 0 rfl) ?_
                refine lv_ldc (v := 10000000) hx hb hown (hts (.constant RL 91 (10000000)) (by decide +kernel)) dL_isAhead_296 ?_
                refine lv_iconst (v := 0) hx hb dL_isAhead_298 (by decide) ?_
                refine cx_rm (vx_runSW (As := [.ref (ad 0), .int 10000000, .int 0]) (rest := []) ⟨hx, hb, hml, hown, hts⟩ (h_enough_t1 l D T ad I (updR R 19 u_267) hlt 10000000 0 (by decide)) (vx_cwSW 3 hts gL_isAhead_L_enough rfl rfl rfl (by decide +kernel) ⟨Nat.le_of_ble_eq_true rfl, Nat.le_of_ble_eq_true rfl⟩) ⟨XN.blind, XN.pre (pw_c hP) hK hN hXU hXZ hNc hS rfl⟩ rfl rfl hl.1 rfl (lv_room (Nat.le_of_ble_eq_true rfl)) dL_isAhead_299 ⟨Nat.le_of_ble_eq_true rfl, Nat.le_of_ble_eq_true rfl⟩) hS (fun H locs hkk hS => ?_)
                have hP := cx_keep hP hkk
                refine W.widen (k := 2) (n := 12) (by decide) (by decide) ?_
                refine lv_bipush (v := (-32)) hx hb dL_isAhead_302 (by decide) ?_
                refine lv_icmp_ne (tgt := 347) hx hb dL_isAhead_304 (by decide) (fun c_304 => absurd c_304 (by decide)) (fun c_304 => ?_)
                refine lv_aload_n hx hb dL_isAhead_307 rfl (lv_at hl 0 rfl) ?_
                refine lv_iconst (v := 0) hx hb dL_isAhead_308 (by decide) ?_
                refine lv_iconst (v := 2) hx hb dL_isAhead_309 (by decide) ?_
                refine cx_rm (vx_runSW (As := [.ref (ad 0), .int 0, .int 2]) (rest := []) ⟨hx, hb, hml, hown, hts⟩ (h_enough_t2 l D T ad I (updR R 19 u_267) hlt 0 2 (by decide) (by decide)) (vx_cwSW 3 hts gL_isAhead_L_enough rfl rfl rfl (by decide +kernel) ⟨Nat.le_of_ble_eq_true rfl, Nat.le_of_ble_eq_true rfl⟩) ⟨XN.blind, XN.pre (pw_c hP) hK hN hXU hXZ hNc hS rfl⟩ rfl rfl hl.1 rfl (lv_room (Nat.le_of_ble_eq_true rfl)) dL_isAhead_310 ⟨Nat.le_of_ble_eq_true rfl, Nat.le_of_ble_eq_true rfl⟩) hS (fun H locs hkk hS => ?_)
                have hP := cx_keep hP hkk
                refine W.widen (k := 3) (n := 18) (by decide) (by decide) ?_
                refine lv_bipush (v := (-32)) hx hb dL_isAhead_313 (by decide) ?_
                refine lv_icmp_ne (tgt := 347) hx hb dL_isAhead_315 (by decide) (fun c_315 => absurd c_315 (by decide)) (fun c_315 => ?_)
                refine lv_aload_n hx hb dL_isAhead_318 rfl (lv_at hl 0 rfl) ?_
                refine lv_bipush (v := 8) hx hb dL_isAhead_319 (by decide) ?_
                refine lv_bipush (v := 8) hx hb dL_isAhead_321 (by decide) ?_
                refine cx_rm (vx_runSW (As := [.ref (ad 0), .int 8, .int 8]) (rest := []) ⟨hx, hb, hml, hown, hts⟩ (h_ifTurned_t1 l D T ad I (updR R 19 u_267) hlt 8 8 (by decide)) (vx_cwSW 3 hts gL_isAhead_L_ifTurned rfl rfl rfl (by decide +kernel) ⟨Nat.le_of_ble_eq_true rfl, Nat.le_of_ble_eq_true rfl⟩) ⟨XN.blind, XN.pre (pw_c hP) hK hN hXU hXZ hNc hS rfl⟩ rfl rfl hl.1 rfl (lv_room (Nat.le_of_ble_eq_true rfl)) dL_isAhead_323 ⟨Nat.le_of_ble_eq_true rfl, Nat.le_of_ble_eq_true rfl⟩) hS (fun H locs hkk hS => ?_)
                have hP := cx_keep hP hkk
                refine W.widen (k := 4) (n := 24) (by decide) (by decide) ?_
                refine lv_bipush (v := (-31)) hx hb dL_isAhead_326 (by decide) ?_
                refine lv_icmp_ne (tgt := 347) hx hb dL_isAhead_328 (by decide) (fun c_328 => absurd c_328 (by decide)) (fun c_328 => ?_)
                refine lv_aload_n hx hb dL_isAhead_331 rfl (lv_at hl 0 rfl) ?_
                refine lv_bipush (v := 8) hx hb dL_isAhead_332 (by decide) ?_
                refine lv_iconst (v := 0) hx hb dL_isAhead_334 (by decide) ?_
                refine cx_rm (vx_runSW (As := [.ref (ad 0), .int 8, .int 0]) (rest := []) ⟨hx, hb, hml, hown, hts⟩ (h_ifTurned_t2 l D T ad I (updR R 19 u_267) hlt 8 0 (by decide) (by decide)) (vx_cwSW 3 hts gL_isAhead_L_ifTurned rfl rfl rfl (by decide +kernel) ⟨Nat.le_of_ble_eq_true rfl, Nat.le_of_ble_eq_true rfl⟩) ⟨XN.blind, XN.pre (pw_c hP) hK hN hXU hXZ hNc hS rfl⟩ rfl rfl hl.1 rfl (lv_room (Nat.le_of_ble_eq_true rfl)) dL_isAhead_335 ⟨Nat.le_of_ble_eq_true rfl, Nat.le_of_ble_eq_true rfl⟩) hS (fun H locs hkk hS => ?_)
                have hP := cx_keep hP hkk
                refine W.widen (k := 5) (n := 30) (by decide) (by decide) ?_
                refine lv_bipush (v := (-32)) hx hb dL_isAhead_338 (by decide) ?_
                refine lv_icmp_ne (tgt := 347) hx hb dL_isAhead_340 (by decide) (fun c_340 => absurd c_340 (by decide)) (fun c_340 => ?_)
                refine lv_iconst (v := 1) hx hb dL_isAhead_343 (by decide) ?_
                refine lv_goto (tgt := 348) hx hb dL_isAhead_344 (by decide) ?_
                exact W.zret (v := 1) hx hb hr (rfl) (fun t ht hW => ⟨⟨1, u_267, rfl, ⟨rfl, trivial⟩, by show va_P _ _ _ _; rw [ht]; exact hP⟩, hS.F ht⟩) hS.2.2 dL_isAhead_348
        · have c_150 : ¬ (8 ≤ b) := fun h => c_150 ((nI_leI (a := 8) (b := b) (by omega) (by omega)).mpr h)
          refine lv_iconst (v := 0) hx hb dL_isAhead_153 (by decide) ?_
          refine lv_istore (lv' := [(10, .int 0), (0, .ref (ad 0)), (1, .int x), (2, .ref (ad 34)), (3, .ref (ad 35)), (4, .ref (ad 36)), (5, .ref (ad 37)), (6, .int (lfS (dr (R 20) lm) x 256)), (7, .int (nI (lbT (fun z9 => dtS (R 22) (dr (R 20) lm) z9 8) b))), (8, .int (lsT (fun z9 => dtS (R 22) (dr (R 20) lm) z9 8) b)), (9, .int (nI b))]) hx hb dL_isAhead_154 hl (by decide) rfl (fun ls hl => ?_)
          refine lv_iconst (v := 0) hx hb dL_isAhead_156 (by decide) ?_
          refine lv_istore (lv' := [(11, .int 0), (10, .int 0), (0, .ref (ad 0)), (1, .int x), (2, .ref (ad 34)), (3, .ref (ad 35)), (4, .ref (ad 36)), (5, .ref (ad 37)), (6, .int (lfS (dr (R 20) lm) x 256)), (7, .int (nI (lbT (fun z9 => dtS (R 22) (dr (R 20) lm) z9 8) b))), (8, .int (lsT (fun z9 => dtS (R 22) (dr (R 20) lm) z9 8) b)), (9, .int (nI b))]) hx hb dL_isAhead_157 hl (by decide) rfl (fun ls hl => ?_)
          suffices ih_159 : ∀ (fu : Nat) (n : Nat) (H : Heap) (locs : List Loc) (ls : Array Slot), 8 - n < fu → (n ≤ 8) → va_P D vwCl (pw T ad I R) H →  va_S (cA 39 ad s.heap.size) s.heap H locs → lv_has ls 12 [(0, .ref (ad 0)), (1, .int x), (2, .ref (ad 34)), (3, .ref (ad 35)), (4, .ref (ad 36)), (5, .ref (ad 37)), (6, .int (lfS (dr (R 20) lm) x 256)), (7, .int (nI (lbT (fun z9 => dtS (R 22) (dr (R 20) lm) z9 8) b))), (8, .int (lsT (fun z9 => dtS (R 22) (dr (R 20) lm) z9 8) b)), (9, .int (nI b)), (10, .int (dtS (R 22) (dr (R 20) lm) b n)), (11, .int (nI n))] → W p l e (headSpec wsL_isAhead ({ frames := 8, cells := 5, slots := 30, locals := 128 })).room s m ([.ref (ad 0), .int x, .ref (ad 34), .ref (ad 35), .ref (ad 36), .ref (ad 37)] : List Value).toArray below meth c H locs 0 0 (MQ below (va_Qi (fun r (u : Nat → Int32) => r = 1 ∧ True) (fun (u : Nat → Int32) t => va_P D vwCl (pw T ad I (updR R 19 u)) t.heap) (cA 39 ad s.heap.size)) ([.ref (ad 0), .int x, .ref (ad 34), .ref (ad 35), .ref (ad 36), .ref (ad 37)] : List Value).toArray s 5 30 (cA 39 ad s.heap.size)) (F0 m 159 ls []) from
            ih_159 _ 0 _ _ _ (Nat.lt_succ_self _) (by omega) hP hS (lv_sub hl [2, 3, 4, 5, 6, 7, 8, 9, 10, 11, 1, 0] rfl)
          intro fu
          induction fu with
          | zero => intro n H locs ls hfu; exact absurd hfu (Nat.not_lt_zero _)
          | succ fu ih_159 =>
            intro n H locs ls hfu hn9 hP hS hl
            refine lv_iload hx hb dL_isAhead_159 (lv_at hl 11 rfl) ?_
            refine lv_bipush (v := 8) hx hb dL_isAhead_161 (by decide) ?_
            refine lv_icmp_ge (tgt := 215) hx hb dL_isAhead_163 (by decide) (fun c_163 => ?_) (fun c_163 => ?_)
            · have c_163 : 8 ≤ n := (nI_leI (a := 8) (b := n) (by omega) (by omega)).mp c_163
              obtain rfl : n = 8 := by omega
              refine lv_iload hx hb dL_isAhead_215 (lv_at hl 10 rfl) ?_
              refine lv_iload hx hb dL_isAhead_217 (lv_at hl 8 rfl) ?_
              refine lv_icmp_ge (tgt := 227) hx hb dL_isAhead_219 (by decide) (fun c_219 => ?_) (fun c_219 => ?_)
              · refine lv_iload hx hb dL_isAhead_227 (lv_at hl 7 rfl) ?_
                refine cx_top (show (nI (lbT (fun z9 => dtS (R 22) (dr (R 20) lm) z9 8) b)) = (nI (lbT (fun z9 => dtS (R 22) (dr (R 20) lm) z9 8) (b + 1))) from congrArg nI (lb_t1 (g := (fun z9 => dtS (R 22) (dr (R 20) lm) z9 8)) c_219)) ?_
                refine lv_istore (lv' := [(7, .int (nI (lbT (fun z9 => dtS (R 22) (dr (R 20) lm) z9 8) (b + 1)))), (0, .ref (ad 0)), (1, .int x), (2, .ref (ad 34)), (3, .ref (ad 35)), (4, .ref (ad 36)), (5, .ref (ad 37)), (6, .int (lfS (dr (R 20) lm) x 256)), (8, .int (lsT (fun z9 => dtS (R 22) (dr (R 20) lm) z9 8) b)), (9, .int (nI b)), (10, .int (dtS (R 22) (dr (R 20) lm) b 8)), (11, .int (nI 8))]) hx hb dL_isAhead_229 hl (by decide) rfl (fun ls hl => ?_)
                refine lv_iload hx hb dL_isAhead_231 (lv_at hl 10 rfl) ?_
                refine lv_iload hx hb dL_isAhead_233 (lv_at hl 8 rfl) ?_
                refine lv_icmp_ge (tgt := 243) hx hb dL_isAhead_235 (by decide) (fun c_235 => ?_) (fun c_235 => ?_)
                · refine lv_iload hx hb dL_isAhead_243 (lv_at hl 8 rfl) ?_
                  refine cx_top (show (lsT (fun z9 => dtS (R 22) (dr (R 20) lm) z9 8) b) = (lsT (fun z9 => dtS (R 22) (dr (R 20) lm) z9 8) (b + 1)) from ls_t1 (g := (fun z9 => dtS (R 22) (dr (R 20) lm) z9 8)) c_235) ?_
                  refine lv_istore (lv' := [(8, .int (lsT (fun z9 => dtS (R 22) (dr (R 20) lm) z9 8) (b + 1))), (7, .int (nI (lbT (fun z9 => dtS (R 22) (dr (R 20) lm) z9 8) (b + 1)))), (0, .ref (ad 0)), (1, .int x), (2, .ref (ad 34)), (3, .ref (ad 35)), (4, .ref (ad 36)), (5, .ref (ad 37)), (6, .int (lfS (dr (R 20) lm) x 256)), (9, .int (nI b)), (10, .int (dtS (R 22) (dr (R 20) lm) b 8)), (11, .int (nI 8))]) hx hb dL_isAhead_245 hl (by decide) rfl (fun ls hl => ?_)
                  refine lv_iinc (k := 9) (v := (nI (b + 1))) (lv' := [(9, .int (nI (b + 1))), (8, .int (lsT (fun z9 => dtS (R 22) (dr (R 20) lm) z9 8) (b + 1))), (7, .int (nI (lbT (fun z9 => dtS (R 22) (dr (R 20) lm) z9 8) (b + 1)))), (0, .ref (ad 0)), (1, .int x), (2, .ref (ad 34)), (3, .ref (ad 35)), (4, .ref (ad 36)), (5, .ref (ad 37)), (6, .int (lfS (dr (R 20) lm) x 256)), (10, .int (dtS (R 22) (dr (R 20) lm) b 8)), (11, .int (nI 8))]) hx hb dL_isAhead_247 hl rfl (nI_add b 1) (by decide) rfl (fun ls hl => ?_)
                  refine lv_goto (tgt := 146) hx hb dL_isAhead_250 (by decide) ?_
                  exact ih_146 (b + 1) _ _ _ (by omega) (by omega) hP hS (lv_sub hl [3, 4, 5, 6, 7, 8, 9, 2, 1, 0] rfl)
                · refine lv_iload hx hb dL_isAhead_238 (lv_at hl 10 rfl) ?_
                  refine lv_goto (tgt := 245) hx hb dL_isAhead_240 (by decide) ?_
                  refine cx_top (show (dtS (R 22) (dr (R 20) lm) b 8) = (lsT (fun z9 => dtS (R 22) (dr (R 20) lm) z9 8) (b + 1)) from ls_f1 (g := (fun z9 => dtS (R 22) (dr (R 20) lm) z9 8)) c_235) ?_
                  refine lv_istore (lv' := [(8, .int (lsT (fun z9 => dtS (R 22) (dr (R 20) lm) z9 8) (b + 1))), (7, .int (nI (lbT (fun z9 => dtS (R 22) (dr (R 20) lm) z9 8) (b + 1)))), (0, .ref (ad 0)), (1, .int x), (2, .ref (ad 34)), (3, .ref (ad 35)), (4, .ref (ad 36)), (5, .ref (ad 37)), (6, .int (lfS (dr (R 20) lm) x 256)), (9, .int (nI b)), (10, .int (dtS (R 22) (dr (R 20) lm) b 8)), (11, .int (nI 8))]) hx hb dL_isAhead_245 hl (by decide) rfl (fun ls hl => ?_)
                  refine lv_iinc (k := 9) (v := (nI (b + 1))) (lv' := [(9, .int (nI (b + 1))), (8, .int (lsT (fun z9 => dtS (R 22) (dr (R 20) lm) z9 8) (b + 1))), (7, .int (nI (lbT (fun z9 => dtS (R 22) (dr (R 20) lm) z9 8) (b + 1)))), (0, .ref (ad 0)), (1, .int x), (2, .ref (ad 34)), (3, .ref (ad 35)), (4, .ref (ad 36)), (5, .ref (ad 37)), (6, .int (lfS (dr (R 20) lm) x 256)), (10, .int (dtS (R 22) (dr (R 20) lm) b 8)), (11, .int (nI 8))]) hx hb dL_isAhead_247 hl rfl (nI_add b 1) (by decide) rfl (fun ls hl => ?_)
                  refine lv_goto (tgt := 146) hx hb dL_isAhead_250 (by decide) ?_
                  exact ih_146 (b + 1) _ _ _ (by omega) (by omega) hP hS (lv_sub hl [3, 4, 5, 6, 7, 8, 9, 2, 1, 0] rfl)
              · refine lv_iload hx hb dL_isAhead_222 (lv_at hl 9 rfl) ?_
                refine lv_goto (tgt := 229) hx hb dL_isAhead_224 (by decide) ?_
                refine cx_top (show (nI b) = (nI (lbT (fun z9 => dtS (R 22) (dr (R 20) lm) z9 8) (b + 1))) from congrArg nI (lb_f1 (g := (fun z9 => dtS (R 22) (dr (R 20) lm) z9 8)) c_219)) ?_
                refine lv_istore (lv' := [(7, .int (nI (lbT (fun z9 => dtS (R 22) (dr (R 20) lm) z9 8) (b + 1)))), (0, .ref (ad 0)), (1, .int x), (2, .ref (ad 34)), (3, .ref (ad 35)), (4, .ref (ad 36)), (5, .ref (ad 37)), (6, .int (lfS (dr (R 20) lm) x 256)), (8, .int (lsT (fun z9 => dtS (R 22) (dr (R 20) lm) z9 8) b)), (9, .int (nI b)), (10, .int (dtS (R 22) (dr (R 20) lm) b 8)), (11, .int (nI 8))]) hx hb dL_isAhead_229 hl (by decide) rfl (fun ls hl => ?_)
                refine lv_iload hx hb dL_isAhead_231 (lv_at hl 10 rfl) ?_
                refine lv_iload hx hb dL_isAhead_233 (lv_at hl 8 rfl) ?_
                refine lv_icmp_ge (tgt := 243) hx hb dL_isAhead_235 (by decide) (fun c_235 => ?_) (fun c_235 => ?_)
                · refine lv_iload hx hb dL_isAhead_243 (lv_at hl 8 rfl) ?_
                  refine cx_top (show (lsT (fun z9 => dtS (R 22) (dr (R 20) lm) z9 8) b) = (lsT (fun z9 => dtS (R 22) (dr (R 20) lm) z9 8) (b + 1)) from ls_t1 (g := (fun z9 => dtS (R 22) (dr (R 20) lm) z9 8)) c_235) ?_
                  refine lv_istore (lv' := [(8, .int (lsT (fun z9 => dtS (R 22) (dr (R 20) lm) z9 8) (b + 1))), (7, .int (nI (lbT (fun z9 => dtS (R 22) (dr (R 20) lm) z9 8) (b + 1)))), (0, .ref (ad 0)), (1, .int x), (2, .ref (ad 34)), (3, .ref (ad 35)), (4, .ref (ad 36)), (5, .ref (ad 37)), (6, .int (lfS (dr (R 20) lm) x 256)), (9, .int (nI b)), (10, .int (dtS (R 22) (dr (R 20) lm) b 8)), (11, .int (nI 8))]) hx hb dL_isAhead_245 hl (by decide) rfl (fun ls hl => ?_)
                  refine lv_iinc (k := 9) (v := (nI (b + 1))) (lv' := [(9, .int (nI (b + 1))), (8, .int (lsT (fun z9 => dtS (R 22) (dr (R 20) lm) z9 8) (b + 1))), (7, .int (nI (lbT (fun z9 => dtS (R 22) (dr (R 20) lm) z9 8) (b + 1)))), (0, .ref (ad 0)), (1, .int x), (2, .ref (ad 34)), (3, .ref (ad 35)), (4, .ref (ad 36)), (5, .ref (ad 37)), (6, .int (lfS (dr (R 20) lm) x 256)), (10, .int (dtS (R 22) (dr (R 20) lm) b 8)), (11, .int (nI 8))]) hx hb dL_isAhead_247 hl rfl (nI_add b 1) (by decide) rfl (fun ls hl => ?_)
                  refine lv_goto (tgt := 146) hx hb dL_isAhead_250 (by decide) ?_
                  exact ih_146 (b + 1) _ _ _ (by omega) (by omega) hP hS (lv_sub hl [3, 4, 5, 6, 7, 8, 9, 2, 1, 0] rfl)
                · refine lv_iload hx hb dL_isAhead_238 (lv_at hl 10 rfl) ?_
                  refine lv_goto (tgt := 245) hx hb dL_isAhead_240 (by decide) ?_
                  refine cx_top (show (dtS (R 22) (dr (R 20) lm) b 8) = (lsT (fun z9 => dtS (R 22) (dr (R 20) lm) z9 8) (b + 1)) from ls_f1 (g := (fun z9 => dtS (R 22) (dr (R 20) lm) z9 8)) c_235) ?_
                  refine lv_istore (lv' := [(8, .int (lsT (fun z9 => dtS (R 22) (dr (R 20) lm) z9 8) (b + 1))), (7, .int (nI (lbT (fun z9 => dtS (R 22) (dr (R 20) lm) z9 8) (b + 1)))), (0, .ref (ad 0)), (1, .int x), (2, .ref (ad 34)), (3, .ref (ad 35)), (4, .ref (ad 36)), (5, .ref (ad 37)), (6, .int (lfS (dr (R 20) lm) x 256)), (9, .int (nI b)), (10, .int (dtS (R 22) (dr (R 20) lm) b 8)), (11, .int (nI 8))]) hx hb dL_isAhead_245 hl (by decide) rfl (fun ls hl => ?_)
                  refine lv_iinc (k := 9) (v := (nI (b + 1))) (lv' := [(9, .int (nI (b + 1))), (8, .int (lsT (fun z9 => dtS (R 22) (dr (R 20) lm) z9 8) (b + 1))), (7, .int (nI (lbT (fun z9 => dtS (R 22) (dr (R 20) lm) z9 8) (b + 1)))), (0, .ref (ad 0)), (1, .int x), (2, .ref (ad 34)), (3, .ref (ad 35)), (4, .ref (ad 36)), (5, .ref (ad 37)), (6, .int (lfS (dr (R 20) lm) x 256)), (10, .int (dtS (R 22) (dr (R 20) lm) b 8)), (11, .int (nI 8))]) hx hb dL_isAhead_247 hl rfl (nI_add b 1) (by decide) rfl (fun ls hl => ?_)
                  refine lv_goto (tgt := 146) hx hb dL_isAhead_250 (by decide) ?_
                  exact ih_146 (b + 1) _ _ _ (by omega) (by omega) hP hS (lv_sub hl [3, 4, 5, 6, 7, 8, 9, 2, 1, 0] rfl)
            · have c_163 : ¬ (8 ≤ n) := fun h => c_163 ((nI_leI (a := 8) (b := n) (by omega) (by omega)).mpr h)
              refine lv_aload_n hx hb dL_isAhead_166 rfl (lv_at hl 0 rfl) ?_
              refine lv_iload hx hb dL_isAhead_167 (lv_at hl 9 rfl) ?_
              refine lv_iload hx hb dL_isAhead_169 (lv_at hl 11 rfl) ?_
              refine cx_ri (va_runV (As := [.int (nI b), .int (nI n)]) (rest := []) ⟨hx, hb, hml, hown, hts⟩ (c_X3_ifTurned l D T ad I R lm b n (hm) (hI) (by omega) (by omega)) (cwV 2 hts gL_isAhead_X3_ifTurned rfl rfl rfl (by decide +kernel) ⟨Nat.le_of_ble_eq_true rfl, Nat.le_of_ble_eq_true rfl⟩) ⟨CR.blind, va_recv hK hP (ci := 3) (q0 := 0) rfl pw_0, CR.pre (pw_c hP) hK hN rfl⟩ rfl rfl hl.1 rfl (lv_room (Nat.le_of_ble_eq_true rfl)) dL_isAhead_171 ⟨Nat.le_of_ble_eq_true rfl, Nat.le_of_ble_eq_true rfl⟩) hS hP (fun H locs hP hS => ?_)
              refine cx_top (y := (trS (dr ((R 0)) lm) (n ^^^ b) 8)) rfl ?_
              refine lv_aload hx hb dL_isAhead_174 (lv_at hl 5 rfl) ?_
              refine lv_iload hx hb dL_isAhead_176 (lv_at hl 11 rfl) ?_
              refine lv_iload hx hb dL_isAhead_178 (lv_at hl 9 rfl) ?_
              refine lv_ixor hx hb dL_isAhead_180 ?_
              refine cx_top (show ((nI n) ^^^ (nI b)) = (nI (n ^^^ b)) from nI_xor (by omega) (by omega)) ?_
              refine cx_iald (k := (n ^^^ b)) hx hb hK hP 37 1 pw_37 rfl (xor_lt (by omega) (by omega)) (by decide) dL_isAhead_181 ?_
              refine cx_top (y := ((R 23) (n ^^^ b))) rfl ?_
              refine lv_icmp_eq (tgt := 187) hx hb dL_isAhead_182 (by decide) (fun c_182 => ?_) (fun c_182 => ?_)
              · refine lv_iload hx hb dL_isAhead_187 (lv_at hl 10 rfl) ?_
                refine lv_aload hx hb dL_isAhead_189 (lv_at hl 4 rfl) ?_
                refine lv_iload hx hb dL_isAhead_191 (lv_at hl 11 rfl) ?_
                refine cx_iald (k := n) hx hb hK hP 36 1 pw_36 rfl (by omega) (by decide) dL_isAhead_193 ?_
                refine cx_top (y := ((R 22) n)) rfl ?_
                refine lv_aload hx hb dL_isAhead_194 (lv_at hl 5 rfl) ?_
                refine lv_iload hx hb dL_isAhead_196 (lv_at hl 11 rfl) ?_
                refine lv_iload hx hb dL_isAhead_198 (lv_at hl 9 rfl) ?_
                refine lv_ixor hx hb dL_isAhead_200 ?_
                refine cx_top (show ((nI n) ^^^ (nI b)) = (nI (n ^^^ b)) from nI_xor (by omega) (by omega)) ?_
                refine cx_iald (k := (n ^^^ b)) hx hb hK hP 37 1 pw_37 rfl (xor_lt (by omega) (by omega)) (by decide) dL_isAhead_201 ?_
                refine cx_top (y := ((R 23) (n ^^^ b))) rfl ?_
                refine lv_isub hx hb dL_isAhead_202 ?_
                refine cx_ri (va_runS (As := [.int (((R 22) n) - ((R 23) (n ^^^ b)))]) (rest := [.int (dtS (R 22) (dr (R 20) lm) b n)]) ⟨hx, hb, hml, hown, hts⟩ (c_L_amount l  (((R 22) n) - ((R 23) (n ^^^ b)))) (va_cwS 1 hts gL_isAhead_L_amount rfl rfl rfl (by decide +kernel) ⟨Nat.le_of_ble_eq_true rfl, Nat.le_of_ble_eq_true rfl⟩) ⟨pc_blind, (fun U hU hW => ⟨rfl, trivial⟩)⟩ rfl rfl hl.1 rfl (lv_room (Nat.le_of_ble_eq_true rfl)) dL_isAhead_203 ⟨Nat.le_of_ble_eq_true rfl, Nat.le_of_ble_eq_true rfl⟩) hS hP (fun H locs hP hS => ?_)
                refine lv_iadd hx hb dL_isAhead_206 ?_
                refine cx_top (show ((dtS (R 22) (dr (R 20) lm) b n) + (abI (((R 22) n) - ((R 23) (n ^^^ b))))) = (dtS (R 22) (dr (R 20) lm) b (n + 1)) from by rw [ht]; rfl) ?_
                refine lv_istore (lv' := [(10, .int (dtS (R 22) (dr (R 20) lm) b (n + 1))), (0, .ref (ad 0)), (1, .int x), (2, .ref (ad 34)), (3, .ref (ad 35)), (4, .ref (ad 36)), (5, .ref (ad 37)), (6, .int (lfS (dr (R 20) lm) x 256)), (7, .int (nI (lbT (fun z9 => dtS (R 22) (dr (R 20) lm) z9 8) b))), (8, .int (lsT (fun z9 => dtS (R 22) (dr (R 20) lm) z9 8) b)), (9, .int (nI b)), (11, .int (nI n))]) hx hb dL_isAhead_207 hl (by decide) rfl (fun ls hl => ?_)
                refine lv_iinc (k := 11) (v := (nI (n + 1))) (lv' := [(11, .int (nI (n + 1))), (10, .int (dtS (R 22) (dr (R 20) lm) b (n + 1))), (0, .ref (ad 0)), (1, .int x), (2, .ref (ad 34)), (3, .ref (ad 35)), (4, .ref (ad 36)), (5, .ref (ad 37)), (6, .int (lfS (dr (R 20) lm) x 256)), (7, .int (nI (lbT (fun z9 => dtS (R 22) (dr (R 20) lm) z9 8) b))), (8, .int (lsT (fun z9 => dtS (R 22) (dr (R 20) lm) z9 8) b)), (9, .int (nI b))]) hx hb dL_isAhead_209 hl rfl (nI_add n 1) (by decide) rfl (fun ls hl => ?_)
                refine lv_goto (tgt := 159) hx hb dL_isAhead_212 (by decide) ?_
                exact ih_159 (n + 1) _ _ _ (by omega) (by omega) hP hS (lv_sub hl [2, 3, 4, 5, 6, 7, 8, 9, 10, 11, 1, 0] rfl)
              · exact absurd (show trS (dr (R 0) lm) (n ^^^ b) 8 = R 23 (n ^^^ b) from by rw [h0, ht]) c_182
    · have c_12 : ¬ (256 ≤ K) := fun h => c_12 ((nI_leI (a := 256) (b := K) (by omega) (by omega)).mpr h)
      refine lv_iconst (v := 0) hx hb dL_isAhead_15 (by decide) ?_
      refine lv_istore (lv' := [(8, .int 0), (0, .ref (ad 0)), (1, .int x), (2, .ref (ad 34)), (3, .ref (ad 35)), (4, .ref (ad 36)), (5, .ref (ad 37)), (6, .int (lfS (dr (R 20) lm) x K)), (7, .int (nI K))]) hx hb dL_isAhead_16 hl (by decide) rfl (fun ls hl => ?_)
      refine lv_iconst (v := 0) hx hb dL_isAhead_18 (by decide) ?_
      refine lv_istore (lv' := [(9, .int 0), (8, .int 0), (0, .ref (ad 0)), (1, .int x), (2, .ref (ad 34)), (3, .ref (ad 35)), (4, .ref (ad 36)), (5, .ref (ad 37)), (6, .int (lfS (dr (R 20) lm) x K)), (7, .int (nI K))]) hx hb dL_isAhead_19 hl (by decide) rfl (fun ls hl => ?_)
      refine lv_iconst (v := 0) hx hb dL_isAhead_21 (by decide) ?_
      refine lv_istore (lv' := [(10, .int 0), (9, .int 0), (8, .int 0), (0, .ref (ad 0)), (1, .int x), (2, .ref (ad 34)), (3, .ref (ad 35)), (4, .ref (ad 36)), (5, .ref (ad 37)), (6, .int (lfS (dr (R 20) lm) x K)), (7, .int (nI K))]) hx hb dL_isAhead_22 hl (by decide) rfl (fun ls hl => ?_)
      suffices ih_24 : ∀ (fu : Nat) (j : Nat) (H : Heap) (locs : List Loc) (ls : Array Slot), 8 - j < fu → (j ≤ 8) → va_P D vwCl (pw T ad I R) H →  va_S (cA 39 ad s.heap.size) s.heap H locs → lv_has ls 12 [(0, .ref (ad 0)), (1, .int x), (2, .ref (ad 34)), (3, .ref (ad 35)), (4, .ref (ad 36)), (5, .ref (ad 37)), (6, .int (lfS (dr (R 20) lm) x K)), (7, .int (nI K)), (8, .int (loE (dr (R 20) lm) K j)), (9, .int (loW (dr (R 20) lm) K j)), (10, .int (nI j))] → W p l e (headSpec wsL_isAhead ({ frames := 8, cells := 5, slots := 30, locals := 128 })).room s m ([.ref (ad 0), .int x, .ref (ad 34), .ref (ad 35), .ref (ad 36), .ref (ad 37)] : List Value).toArray below meth c H locs 0 0 (MQ below (va_Qi (fun r (u : Nat → Int32) => r = 1 ∧ True) (fun (u : Nat → Int32) t => va_P D vwCl (pw T ad I (updR R 19 u)) t.heap) (cA 39 ad s.heap.size)) ([.ref (ad 0), .int x, .ref (ad 34), .ref (ad 35), .ref (ad 36), .ref (ad 37)] : List Value).toArray s 5 30 (cA 39 ad s.heap.size)) (F0 m 24 ls []) from
        ih_24 _ 0 _ _ _ (Nat.lt_succ_self _) (by omega) hP hS (lv_sub hl [3, 4, 5, 6, 7, 8, 9, 10, 2, 1, 0] rfl)
      intro fu
      induction fu with
      | zero => intro j H locs ls hfu; exact absurd hfu (Nat.not_lt_zero _)
      | succ fu ih_24 =>
        intro j H locs ls hfu hj9 hP hS hl
        refine lv_iload hx hb dL_isAhead_24 (lv_at hl 10 rfl) ?_
        refine lv_bipush (v := 8) hx hb dL_isAhead_26 (by decide) ?_
        refine lv_icmp_ge (tgt := 108) hx hb dL_isAhead_28 (by decide) (fun c_28 => ?_) (fun c_28 => ?_)
        · have c_28 : 8 ≤ j := (nI_leI (a := 8) (b := j) (by omega) (by omega)).mp c_28
          obtain rfl : j = 8 := by omega
          refine lv_iload hx hb dL_isAhead_108 (lv_at hl 8 rfl) ?_
          refine lv_iload_n hx hb dL_isAhead_110 rfl (lv_at hl 1 rfl) ?_
          refine lv_icmp_gt (tgt := 126) hx hb dL_isAhead_111 (by decide) (fun c_111 => ?_) (fun c_111 => ?_)
          · refine lv_iload hx hb dL_isAhead_126 (lv_at hl 6 rfl) ?_
            refine cx_top (show (lfS (dr (R 20) lm) x K) = (lfS (dr (R 20) lm) x (K + 1)) from lf_a c_111) ?_
            refine lv_istore (lv' := [(6, .int (lfS (dr (R 20) lm) x (K + 1))), (0, .ref (ad 0)), (1, .int x), (2, .ref (ad 34)), (3, .ref (ad 35)), (4, .ref (ad 36)), (5, .ref (ad 37)), (7, .int (nI K)), (8, .int (loE (dr (R 20) lm) K 8)), (9, .int (loW (dr (R 20) lm) K 8)), (10, .int (nI 8))]) hx hb dL_isAhead_128 hl (by decide) rfl (fun ls hl => ?_)
            refine lv_iinc (k := 7) (v := (nI (K + 1))) (lv' := [(7, .int (nI (K + 1))), (6, .int (lfS (dr (R 20) lm) x (K + 1))), (0, .ref (ad 0)), (1, .int x), (2, .ref (ad 34)), (3, .ref (ad 35)), (4, .ref (ad 36)), (5, .ref (ad 37)), (8, .int (loE (dr (R 20) lm) K 8)), (9, .int (loW (dr (R 20) lm) K 8)), (10, .int (nI 8))]) hx hb dL_isAhead_130 hl rfl (nI_add K 1) (by decide) rfl (fun ls hl => ?_)
            refine lv_goto (tgt := 7) hx hb dL_isAhead_133 (by decide) ?_
            exact ih_7 (K + 1) _ _ _ (by omega) (by omega) hP hS (lv_sub hl [2, 3, 4, 5, 6, 7, 1, 0] rfl)
          · refine lv_iload hx hb dL_isAhead_114 (lv_at hl 9 rfl) ?_
            refine lv_iload hx hb dL_isAhead_116 (lv_at hl 6 rfl) ?_
            refine lv_icmp_ge (tgt := 126) hx hb dL_isAhead_118 (by decide) (fun c_118 => ?_) (fun c_118 => ?_)
            · refine lv_iload hx hb dL_isAhead_126 (lv_at hl 6 rfl) ?_
              refine cx_top (show (lfS (dr (R 20) lm) x K) = (lfS (dr (R 20) lm) x (K + 1)) from lf_b c_111 c_118) ?_
              refine lv_istore (lv' := [(6, .int (lfS (dr (R 20) lm) x (K + 1))), (0, .ref (ad 0)), (1, .int x), (2, .ref (ad 34)), (3, .ref (ad 35)), (4, .ref (ad 36)), (5, .ref (ad 37)), (7, .int (nI K)), (8, .int (loE (dr (R 20) lm) K 8)), (9, .int (loW (dr (R 20) lm) K 8)), (10, .int (nI 8))]) hx hb dL_isAhead_128 hl (by decide) rfl (fun ls hl => ?_)
              refine lv_iinc (k := 7) (v := (nI (K + 1))) (lv' := [(7, .int (nI (K + 1))), (6, .int (lfS (dr (R 20) lm) x (K + 1))), (0, .ref (ad 0)), (1, .int x), (2, .ref (ad 34)), (3, .ref (ad 35)), (4, .ref (ad 36)), (5, .ref (ad 37)), (8, .int (loE (dr (R 20) lm) K 8)), (9, .int (loW (dr (R 20) lm) K 8)), (10, .int (nI 8))]) hx hb dL_isAhead_130 hl rfl (nI_add K 1) (by decide) rfl (fun ls hl => ?_)
              refine lv_goto (tgt := 7) hx hb dL_isAhead_133 (by decide) ?_
              exact ih_7 (K + 1) _ _ _ (by omega) (by omega) hP hS (lv_sub hl [2, 3, 4, 5, 6, 7, 1, 0] rfl)
            · refine lv_iload hx hb dL_isAhead_121 (lv_at hl 9 rfl) ?_
              refine lv_goto (tgt := 128) hx hb dL_isAhead_123 (by decide) ?_
              refine cx_top (show (loW (dr (R 20) lm) K 8) = (lfS (dr (R 20) lm) x (K + 1)) from lf_c c_111 c_118) ?_
              refine lv_istore (lv' := [(6, .int (lfS (dr (R 20) lm) x (K + 1))), (0, .ref (ad 0)), (1, .int x), (2, .ref (ad 34)), (3, .ref (ad 35)), (4, .ref (ad 36)), (5, .ref (ad 37)), (7, .int (nI K)), (8, .int (loE (dr (R 20) lm) K 8)), (9, .int (loW (dr (R 20) lm) K 8)), (10, .int (nI 8))]) hx hb dL_isAhead_128 hl (by decide) rfl (fun ls hl => ?_)
              refine lv_iinc (k := 7) (v := (nI (K + 1))) (lv' := [(7, .int (nI (K + 1))), (6, .int (lfS (dr (R 20) lm) x (K + 1))), (0, .ref (ad 0)), (1, .int x), (2, .ref (ad 34)), (3, .ref (ad 35)), (4, .ref (ad 36)), (5, .ref (ad 37)), (8, .int (loE (dr (R 20) lm) K 8)), (9, .int (loW (dr (R 20) lm) K 8)), (10, .int (nI 8))]) hx hb dL_isAhead_130 hl rfl (nI_add K 1) (by decide) rfl (fun ls hl => ?_)
              refine lv_goto (tgt := 7) hx hb dL_isAhead_133 (by decide) ?_
              exact ih_7 (K + 1) _ _ _ (by omega) (by omega) hP hS (lv_sub hl [2, 3, 4, 5, 6, 7, 1, 0] rfl)
        · have c_28 : ¬ (8 ≤ j) := fun h => c_28 ((nI_leI (a := 8) (b := j) (by omega) (by omega)).mpr h)
          refine lv_aload_n hx hb dL_isAhead_31 rfl (lv_at hl 3 rfl) ?_
          refine lv_iload hx hb dL_isAhead_32 (lv_at hl 10 rfl) ?_
          refine cx_iald (k := j) hx hb hK hP 35 1 pw_35 rfl (by omega) (by decide) dL_isAhead_34 ?_
          refine cx_top (y := ((R 21) j)) rfl ?_
          refine lv_iconst (v := 1) hx hb dL_isAhead_35 (by decide) ?_
          refine lv_icmp_ne (tgt := 43) hx hb dL_isAhead_36 (by decide) (fun c_36 => ?_) (fun c_36 => ?_)
          · refine lv_aload_n hx hb dL_isAhead_43 rfl (lv_at hl 2 rfl) ?_
            refine lv_iload hx hb dL_isAhead_44 (lv_at hl 10 rfl) ?_
            refine cx_iald (k := j) hx hb hK hP 34 1 pw_34 rfl (by omega) (by decide) dL_isAhead_46 ?_
            refine cx_top (y := ((R 20) j)) rfl ?_
            refine cx_top (show ((R 20) j) = (dr (R 20) lm j) from dq_t hb1 c_36) ?_
            refine lv_istore (lv' := [(11, .int (dr (R 20) lm j)), (0, .ref (ad 0)), (1, .int x), (2, .ref (ad 34)), (3, .ref (ad 35)), (4, .ref (ad 36)), (5, .ref (ad 37)), (6, .int (lfS (dr (R 20) lm) x K)), (7, .int (nI K)), (8, .int (loE (dr (R 20) lm) K j)), (9, .int (loW (dr (R 20) lm) K j)), (10, .int (nI j))]) hx hb dL_isAhead_47 hl (by decide) rfl (fun ls hl => ?_)
            refine lv_iload hx hb dL_isAhead_49 (lv_at hl 9 rfl) ?_
            refine lv_iload hx hb dL_isAhead_51 (lv_at hl 8 rfl) ?_
            refine lv_iload hx hb dL_isAhead_53 (lv_at hl 11 rfl) ?_
            refine lv_ishr hx hb dL_isAhead_55 ?_
            refine lv_iconst (v := 1) hx hb dL_isAhead_56 (by decide) ?_
            refine lv_iand hx hb dL_isAhead_57 ?_
            refine cx_top (show (((nI K) >>> ((nI j) &&& 31)) &&& 1) = (lbI K j) from lb_shr (by omega) (by omega)) ?_
            refine lv_if_ne (tgt := 72) hx hb dL_isAhead_58 (by decide) (fun c_58 => ?_) (fun c_58 => ?_)
            · refine lv_iconst (v := 0) hx hb dL_isAhead_72 (by decide) ?_
              refine lv_iadd hx hb dL_isAhead_73 ?_
              refine cx_top (show ((loE (dr (R 20) lm) K j) + 0) = (loE (dr (R 20) lm) K (j + 1)) from le_t c_58) ?_
              refine lv_istore (lv' := [(8, .int (loE (dr (R 20) lm) K (j + 1))), (11, .int (dr (R 20) lm j)), (0, .ref (ad 0)), (1, .int x), (2, .ref (ad 34)), (3, .ref (ad 35)), (4, .ref (ad 36)), (5, .ref (ad 37)), (6, .int (lfS (dr (R 20) lm) x K)), (7, .int (nI K)), (9, .int (loW (dr (R 20) lm) K j)), (10, .int (nI j))]) hx hb dL_isAhead_74 hl (by decide) rfl (fun ls hl => ?_)
              refine lv_iload hx hb dL_isAhead_76 (lv_at hl 10 rfl) ?_
              refine lv_iload hx hb dL_isAhead_78 (lv_at hl 9 rfl) ?_
              refine lv_iload hx hb dL_isAhead_80 (lv_at hl 11 rfl) ?_
              refine lv_ishr hx hb dL_isAhead_82 ?_
              refine lv_iconst (v := 1) hx hb dL_isAhead_83 (by decide) ?_
              refine lv_iand hx hb dL_isAhead_84 ?_
              refine cx_top (show (((nI K) >>> ((nI j) &&& 31)) &&& 1) = (lbI K j) from lb_shr (by omega) (by omega)) ?_
              refine lv_iconst (v := 1) hx hb dL_isAhead_85 (by decide) ?_
              refine lv_icmp_ne (tgt := 98) hx hb dL_isAhead_86 (by decide) (fun c_86 => ?_) (fun c_86 => ?_)
              · refine lv_iconst (v := 0) hx hb dL_isAhead_98 (by decide) ?_
                refine lv_iadd hx hb dL_isAhead_99 ?_
                refine cx_top (show ((loW (dr (R 20) lm) K j) + 0) = (loW (dr (R 20) lm) K (j + 1)) from lw_a c_86) ?_
                refine lv_istore (lv' := [(9, .int (loW (dr (R 20) lm) K (j + 1))), (8, .int (loE (dr (R 20) lm) K (j + 1))), (11, .int (dr (R 20) lm j)), (0, .ref (ad 0)), (1, .int x), (2, .ref (ad 34)), (3, .ref (ad 35)), (4, .ref (ad 36)), (5, .ref (ad 37)), (6, .int (lfS (dr (R 20) lm) x K)), (7, .int (nI K)), (10, .int (nI j))]) hx hb dL_isAhead_100 hl (by decide) rfl (fun ls hl => ?_)
                refine lv_iinc (k := 11) (v := (nI (j + 1))) (lv' := [(10, .int (nI (j + 1))), (9, .int (loW (dr (R 20) lm) K (j + 1))), (8, .int (loE (dr (R 20) lm) K (j + 1))), (11, .int (dr (R 20) lm j)), (0, .ref (ad 0)), (1, .int x), (2, .ref (ad 34)), (3, .ref (ad 35)), (4, .ref (ad 36)), (5, .ref (ad 37)), (6, .int (lfS (dr (R 20) lm) x K)), (7, .int (nI K))]) hx hb dL_isAhead_102 hl rfl (nI_add j 1) (by decide) rfl (fun ls hl => ?_)
                refine lv_goto (tgt := 24) hx hb dL_isAhead_105 (by decide) ?_
                exact ih_24 (j + 1) _ _ _ (by omega) (by omega) hP hS (lv_sub hl [4, 5, 6, 7, 8, 9, 10, 11, 2, 1, 0] rfl)
              · refine lv_iload hx hb dL_isAhead_89 (lv_at hl 1 rfl) ?_
                refine lv_if_eq (tgt := 98) hx hb dL_isAhead_91 (by decide) (fun c_91 => ?_) (fun c_91 => ?_)
                · refine lv_iconst (v := 0) hx hb dL_isAhead_98 (by decide) ?_
                  refine lv_iadd hx hb dL_isAhead_99 ?_
                  refine cx_top (show ((loW (dr (R 20) lm) K j) + 0) = (loW (dr (R 20) lm) K (j + 1)) from lw_b c_86 c_91) ?_
                  refine lv_istore (lv' := [(9, .int (loW (dr (R 20) lm) K (j + 1))), (8, .int (loE (dr (R 20) lm) K (j + 1))), (11, .int (dr (R 20) lm j)), (0, .ref (ad 0)), (1, .int x), (2, .ref (ad 34)), (3, .ref (ad 35)), (4, .ref (ad 36)), (5, .ref (ad 37)), (6, .int (lfS (dr (R 20) lm) x K)), (7, .int (nI K)), (10, .int (nI j))]) hx hb dL_isAhead_100 hl (by decide) rfl (fun ls hl => ?_)
                  refine lv_iinc (k := 11) (v := (nI (j + 1))) (lv' := [(10, .int (nI (j + 1))), (9, .int (loW (dr (R 20) lm) K (j + 1))), (8, .int (loE (dr (R 20) lm) K (j + 1))), (11, .int (dr (R 20) lm j)), (0, .ref (ad 0)), (1, .int x), (2, .ref (ad 34)), (3, .ref (ad 35)), (4, .ref (ad 36)), (5, .ref (ad 37)), (6, .int (lfS (dr (R 20) lm) x K)), (7, .int (nI K))]) hx hb dL_isAhead_102 hl rfl (nI_add j 1) (by decide) rfl (fun ls hl => ?_)
                  refine lv_goto (tgt := 24) hx hb dL_isAhead_105 (by decide) ?_
                  exact ih_24 (j + 1) _ _ _ (by omega) (by omega) hP hS (lv_sub hl [4, 5, 6, 7, 8, 9, 10, 11, 2, 1, 0] rfl)
                · refine lv_iconst (v := 1) hx hb dL_isAhead_94 (by decide) ?_
                  refine lv_goto (tgt := 99) hx hb dL_isAhead_95 (by decide) ?_
                  refine lv_iadd hx hb dL_isAhead_99 ?_
                  refine cx_top (show ((loW (dr (R 20) lm) K j) + 1) = (loW (dr (R 20) lm) K (j + 1)) from lw_c c_86 c_91) ?_
                  refine lv_istore (lv' := [(9, .int (loW (dr (R 20) lm) K (j + 1))), (8, .int (loE (dr (R 20) lm) K (j + 1))), (11, .int (dr (R 20) lm j)), (0, .ref (ad 0)), (1, .int x), (2, .ref (ad 34)), (3, .ref (ad 35)), (4, .ref (ad 36)), (5, .ref (ad 37)), (6, .int (lfS (dr (R 20) lm) x K)), (7, .int (nI K)), (10, .int (nI j))]) hx hb dL_isAhead_100 hl (by decide) rfl (fun ls hl => ?_)
                  refine lv_iinc (k := 11) (v := (nI (j + 1))) (lv' := [(10, .int (nI (j + 1))), (9, .int (loW (dr (R 20) lm) K (j + 1))), (8, .int (loE (dr (R 20) lm) K (j + 1))), (11, .int (dr (R 20) lm j)), (0, .ref (ad 0)), (1, .int x), (2, .ref (ad 34)), (3, .ref (ad 35)), (4, .ref (ad 36)), (5, .ref (ad 37)), (6, .int (lfS (dr (R 20) lm) x K)), (7, .int (nI K))]) hx hb dL_isAhead_102 hl rfl (nI_add j 1) (by decide) rfl (fun ls hl => ?_)
                  refine lv_goto (tgt := 24) hx hb dL_isAhead_105 (by decide) ?_
                  exact ih_24 (j + 1) _ _ _ (by omega) (by omega) hP hS (lv_sub hl [4, 5, 6, 7, 8, 9, 10, 11, 2, 1, 0] rfl)
            · refine lv_bipush (v := 8) hx hb dL_isAhead_61 (by decide) ?_
              refine lv_iload hx hb dL_isAhead_63 (lv_at hl 0 rfl) ?_
              refine lv_imul hx hb dL_isAhead_65 ?_
              refine lv_iload hx hb dL_isAhead_66 (lv_at hl 0 rfl) ?_
              refine lv_imul hx hb dL_isAhead_68 ?_
              refine lv_goto (tgt := 73) hx hb dL_isAhead_69 (by decide) ?_
              refine lv_iadd hx hb dL_isAhead_73 ?_
              refine cx_top (show ((loE (dr (R 20) lm) K j) + ((8 * (dr (R 20) lm j)) * (dr (R 20) lm j))) = (loE (dr (R 20) lm) K (j + 1)) from le_f c_58) ?_
              refine lv_istore (lv' := [(8, .int (loE (dr (R 20) lm) K (j + 1))), (11, .int (dr (R 20) lm j)), (0, .ref (ad 0)), (1, .int x), (2, .ref (ad 34)), (3, .ref (ad 35)), (4, .ref (ad 36)), (5, .ref (ad 37)), (6, .int (lfS (dr (R 20) lm) x K)), (7, .int (nI K)), (9, .int (loW (dr (R 20) lm) K j)), (10, .int (nI j))]) hx hb dL_isAhead_74 hl (by decide) rfl (fun ls hl => ?_)
              refine lv_iload hx hb dL_isAhead_76 (lv_at hl 10 rfl) ?_
              refine lv_iload hx hb dL_isAhead_78 (lv_at hl 9 rfl) ?_
              refine lv_iload hx hb dL_isAhead_80 (lv_at hl 11 rfl) ?_
              refine lv_ishr hx hb dL_isAhead_82 ?_
              refine lv_iconst (v := 1) hx hb dL_isAhead_83 (by decide) ?_
              refine lv_iand hx hb dL_isAhead_84 ?_
              refine cx_top (show (((nI K) >>> ((nI j) &&& 31)) &&& 1) = (lbI K j) from lb_shr (by omega) (by omega)) ?_
              refine lv_iconst (v := 1) hx hb dL_isAhead_85 (by decide) ?_
              refine lv_icmp_ne (tgt := 98) hx hb dL_isAhead_86 (by decide) (fun c_86 => ?_) (fun c_86 => ?_)
              · refine lv_iconst (v := 0) hx hb dL_isAhead_98 (by decide) ?_
                refine lv_iadd hx hb dL_isAhead_99 ?_
                refine cx_top (show ((loW (dr (R 20) lm) K j) + 0) = (loW (dr (R 20) lm) K (j + 1)) from lw_a c_86) ?_
                refine lv_istore (lv' := [(9, .int (loW (dr (R 20) lm) K (j + 1))), (8, .int (loE (dr (R 20) lm) K (j + 1))), (11, .int (dr (R 20) lm j)), (0, .ref (ad 0)), (1, .int x), (2, .ref (ad 34)), (3, .ref (ad 35)), (4, .ref (ad 36)), (5, .ref (ad 37)), (6, .int (lfS (dr (R 20) lm) x K)), (7, .int (nI K)), (10, .int (nI j))]) hx hb dL_isAhead_100 hl (by decide) rfl (fun ls hl => ?_)
                refine lv_iinc (k := 11) (v := (nI (j + 1))) (lv' := [(10, .int (nI (j + 1))), (9, .int (loW (dr (R 20) lm) K (j + 1))), (8, .int (loE (dr (R 20) lm) K (j + 1))), (11, .int (dr (R 20) lm j)), (0, .ref (ad 0)), (1, .int x), (2, .ref (ad 34)), (3, .ref (ad 35)), (4, .ref (ad 36)), (5, .ref (ad 37)), (6, .int (lfS (dr (R 20) lm) x K)), (7, .int (nI K))]) hx hb dL_isAhead_102 hl rfl (nI_add j 1) (by decide) rfl (fun ls hl => ?_)
                refine lv_goto (tgt := 24) hx hb dL_isAhead_105 (by decide) ?_
                exact ih_24 (j + 1) _ _ _ (by omega) (by omega) hP hS (lv_sub hl [4, 5, 6, 7, 8, 9, 10, 11, 2, 1, 0] rfl)
              · refine lv_iload hx hb dL_isAhead_89 (lv_at hl 1 rfl) ?_
                refine lv_if_eq (tgt := 98) hx hb dL_isAhead_91 (by decide) (fun c_91 => ?_) (fun c_91 => ?_)
                · refine lv_iconst (v := 0) hx hb dL_isAhead_98 (by decide) ?_
                  refine lv_iadd hx hb dL_isAhead_99 ?_
                  refine cx_top (show ((loW (dr (R 20) lm) K j) + 0) = (loW (dr (R 20) lm) K (j + 1)) from lw_b c_86 c_91) ?_
                  refine lv_istore (lv' := [(9, .int (loW (dr (R 20) lm) K (j + 1))), (8, .int (loE (dr (R 20) lm) K (j + 1))), (11, .int (dr (R 20) lm j)), (0, .ref (ad 0)), (1, .int x), (2, .ref (ad 34)), (3, .ref (ad 35)), (4, .ref (ad 36)), (5, .ref (ad 37)), (6, .int (lfS (dr (R 20) lm) x K)), (7, .int (nI K)), (10, .int (nI j))]) hx hb dL_isAhead_100 hl (by decide) rfl (fun ls hl => ?_)
                  refine lv_iinc (k := 11) (v := (nI (j + 1))) (lv' := [(10, .int (nI (j + 1))), (9, .int (loW (dr (R 20) lm) K (j + 1))), (8, .int (loE (dr (R 20) lm) K (j + 1))), (11, .int (dr (R 20) lm j)), (0, .ref (ad 0)), (1, .int x), (2, .ref (ad 34)), (3, .ref (ad 35)), (4, .ref (ad 36)), (5, .ref (ad 37)), (6, .int (lfS (dr (R 20) lm) x K)), (7, .int (nI K))]) hx hb dL_isAhead_102 hl rfl (nI_add j 1) (by decide) rfl (fun ls hl => ?_)
                  refine lv_goto (tgt := 24) hx hb dL_isAhead_105 (by decide) ?_
                  exact ih_24 (j + 1) _ _ _ (by omega) (by omega) hP hS (lv_sub hl [4, 5, 6, 7, 8, 9, 10, 11, 2, 1, 0] rfl)
                · refine lv_iconst (v := 1) hx hb dL_isAhead_94 (by decide) ?_
                  refine lv_goto (tgt := 99) hx hb dL_isAhead_95 (by decide) ?_
                  refine lv_iadd hx hb dL_isAhead_99 ?_
                  refine cx_top (show ((loW (dr (R 20) lm) K j) + 1) = (loW (dr (R 20) lm) K (j + 1)) from lw_c c_86 c_91) ?_
                  refine lv_istore (lv' := [(9, .int (loW (dr (R 20) lm) K (j + 1))), (8, .int (loE (dr (R 20) lm) K (j + 1))), (11, .int (dr (R 20) lm j)), (0, .ref (ad 0)), (1, .int x), (2, .ref (ad 34)), (3, .ref (ad 35)), (4, .ref (ad 36)), (5, .ref (ad 37)), (6, .int (lfS (dr (R 20) lm) x K)), (7, .int (nI K)), (10, .int (nI j))]) hx hb dL_isAhead_100 hl (by decide) rfl (fun ls hl => ?_)
                  refine lv_iinc (k := 11) (v := (nI (j + 1))) (lv' := [(10, .int (nI (j + 1))), (9, .int (loW (dr (R 20) lm) K (j + 1))), (8, .int (loE (dr (R 20) lm) K (j + 1))), (11, .int (dr (R 20) lm j)), (0, .ref (ad 0)), (1, .int x), (2, .ref (ad 34)), (3, .ref (ad 35)), (4, .ref (ad 36)), (5, .ref (ad 37)), (6, .int (lfS (dr (R 20) lm) x K)), (7, .int (nI K))]) hx hb dL_isAhead_102 hl rfl (nI_add j 1) (by decide) rfl (fun ls hl => ?_)
                  refine lv_goto (tgt := 24) hx hb dL_isAhead_105 (by decide) ?_
                  exact ih_24 (j + 1) _ _ _ (by omega) (by omega) hP hS (lv_sub hl [4, 5, 6, 7, 8, 9, 10, 11, 2, 1, 0] rfl)
          · refine lv_iconst (v := 0) hx hb dL_isAhead_39 (by decide) ?_
            refine lv_goto (tgt := 47) hx hb dL_isAhead_40 (by decide) ?_
            refine cx_top (show 0 = (dr (R 20) lm j) from dq_f hb1 c_36) ?_
            refine lv_istore (lv' := [(11, .int (dr (R 20) lm j)), (0, .ref (ad 0)), (1, .int x), (2, .ref (ad 34)), (3, .ref (ad 35)), (4, .ref (ad 36)), (5, .ref (ad 37)), (6, .int (lfS (dr (R 20) lm) x K)), (7, .int (nI K)), (8, .int (loE (dr (R 20) lm) K j)), (9, .int (loW (dr (R 20) lm) K j)), (10, .int (nI j))]) hx hb dL_isAhead_47 hl (by decide) rfl (fun ls hl => ?_)
            refine lv_iload hx hb dL_isAhead_49 (lv_at hl 9 rfl) ?_
            refine lv_iload hx hb dL_isAhead_51 (lv_at hl 8 rfl) ?_
            refine lv_iload hx hb dL_isAhead_53 (lv_at hl 11 rfl) ?_
            refine lv_ishr hx hb dL_isAhead_55 ?_
            refine lv_iconst (v := 1) hx hb dL_isAhead_56 (by decide) ?_
            refine lv_iand hx hb dL_isAhead_57 ?_
            refine cx_top (show (((nI K) >>> ((nI j) &&& 31)) &&& 1) = (lbI K j) from lb_shr (by omega) (by omega)) ?_
            refine lv_if_ne (tgt := 72) hx hb dL_isAhead_58 (by decide) (fun c_58 => ?_) (fun c_58 => ?_)
            · refine lv_iconst (v := 0) hx hb dL_isAhead_72 (by decide) ?_
              refine lv_iadd hx hb dL_isAhead_73 ?_
              refine cx_top (show ((loE (dr (R 20) lm) K j) + 0) = (loE (dr (R 20) lm) K (j + 1)) from le_t c_58) ?_
              refine lv_istore (lv' := [(8, .int (loE (dr (R 20) lm) K (j + 1))), (11, .int (dr (R 20) lm j)), (0, .ref (ad 0)), (1, .int x), (2, .ref (ad 34)), (3, .ref (ad 35)), (4, .ref (ad 36)), (5, .ref (ad 37)), (6, .int (lfS (dr (R 20) lm) x K)), (7, .int (nI K)), (9, .int (loW (dr (R 20) lm) K j)), (10, .int (nI j))]) hx hb dL_isAhead_74 hl (by decide) rfl (fun ls hl => ?_)
              refine lv_iload hx hb dL_isAhead_76 (lv_at hl 10 rfl) ?_
              refine lv_iload hx hb dL_isAhead_78 (lv_at hl 9 rfl) ?_
              refine lv_iload hx hb dL_isAhead_80 (lv_at hl 11 rfl) ?_
              refine lv_ishr hx hb dL_isAhead_82 ?_
              refine lv_iconst (v := 1) hx hb dL_isAhead_83 (by decide) ?_
              refine lv_iand hx hb dL_isAhead_84 ?_
              refine cx_top (show (((nI K) >>> ((nI j) &&& 31)) &&& 1) = (lbI K j) from lb_shr (by omega) (by omega)) ?_
              refine lv_iconst (v := 1) hx hb dL_isAhead_85 (by decide) ?_
              refine lv_icmp_ne (tgt := 98) hx hb dL_isAhead_86 (by decide) (fun c_86 => ?_) (fun c_86 => ?_)
              · refine lv_iconst (v := 0) hx hb dL_isAhead_98 (by decide) ?_
                refine lv_iadd hx hb dL_isAhead_99 ?_
                refine cx_top (show ((loW (dr (R 20) lm) K j) + 0) = (loW (dr (R 20) lm) K (j + 1)) from lw_a c_86) ?_
                refine lv_istore (lv' := [(9, .int (loW (dr (R 20) lm) K (j + 1))), (8, .int (loE (dr (R 20) lm) K (j + 1))), (11, .int (dr (R 20) lm j)), (0, .ref (ad 0)), (1, .int x), (2, .ref (ad 34)), (3, .ref (ad 35)), (4, .ref (ad 36)), (5, .ref (ad 37)), (6, .int (lfS (dr (R 20) lm) x K)), (7, .int (nI K)), (10, .int (nI j))]) hx hb dL_isAhead_100 hl (by decide) rfl (fun ls hl => ?_)
                refine lv_iinc (k := 11) (v := (nI (j + 1))) (lv' := [(10, .int (nI (j + 1))), (9, .int (loW (dr (R 20) lm) K (j + 1))), (8, .int (loE (dr (R 20) lm) K (j + 1))), (11, .int (dr (R 20) lm j)), (0, .ref (ad 0)), (1, .int x), (2, .ref (ad 34)), (3, .ref (ad 35)), (4, .ref (ad 36)), (5, .ref (ad 37)), (6, .int (lfS (dr (R 20) lm) x K)), (7, .int (nI K))]) hx hb dL_isAhead_102 hl rfl (nI_add j 1) (by decide) rfl (fun ls hl => ?_)
                refine lv_goto (tgt := 24) hx hb dL_isAhead_105 (by decide) ?_
                exact ih_24 (j + 1) _ _ _ (by omega) (by omega) hP hS (lv_sub hl [4, 5, 6, 7, 8, 9, 10, 11, 2, 1, 0] rfl)
              · refine lv_iload hx hb dL_isAhead_89 (lv_at hl 1 rfl) ?_
                refine lv_if_eq (tgt := 98) hx hb dL_isAhead_91 (by decide) (fun c_91 => ?_) (fun c_91 => ?_)
                · refine lv_iconst (v := 0) hx hb dL_isAhead_98 (by decide) ?_
                  refine lv_iadd hx hb dL_isAhead_99 ?_
                  refine cx_top (show ((loW (dr (R 20) lm) K j) + 0) = (loW (dr (R 20) lm) K (j + 1)) from lw_b c_86 c_91) ?_
                  refine lv_istore (lv' := [(9, .int (loW (dr (R 20) lm) K (j + 1))), (8, .int (loE (dr (R 20) lm) K (j + 1))), (11, .int (dr (R 20) lm j)), (0, .ref (ad 0)), (1, .int x), (2, .ref (ad 34)), (3, .ref (ad 35)), (4, .ref (ad 36)), (5, .ref (ad 37)), (6, .int (lfS (dr (R 20) lm) x K)), (7, .int (nI K)), (10, .int (nI j))]) hx hb dL_isAhead_100 hl (by decide) rfl (fun ls hl => ?_)
                  refine lv_iinc (k := 11) (v := (nI (j + 1))) (lv' := [(10, .int (nI (j + 1))), (9, .int (loW (dr (R 20) lm) K (j + 1))), (8, .int (loE (dr (R 20) lm) K (j + 1))), (11, .int (dr (R 20) lm j)), (0, .ref (ad 0)), (1, .int x), (2, .ref (ad 34)), (3, .ref (ad 35)), (4, .ref (ad 36)), (5, .ref (ad 37)), (6, .int (lfS (dr (R 20) lm) x K)), (7, .int (nI K))]) hx hb dL_isAhead_102 hl rfl (nI_add j 1) (by decide) rfl (fun ls hl => ?_)
                  refine lv_goto (tgt := 24) hx hb dL_isAhead_105 (by decide) ?_
                  exact ih_24 (j + 1) _ _ _ (by omega) (by omega) hP hS (lv_sub hl [4, 5, 6, 7, 8, 9, 10, 11, 2, 1, 0] rfl)
                · refine lv_iconst (v := 1) hx hb dL_isAhead_94 (by decide) ?_
                  refine lv_goto (tgt := 99) hx hb dL_isAhead_95 (by decide) ?_
                  refine lv_iadd hx hb dL_isAhead_99 ?_
                  refine cx_top (show ((loW (dr (R 20) lm) K j) + 1) = (loW (dr (R 20) lm) K (j + 1)) from lw_c c_86 c_91) ?_
                  refine lv_istore (lv' := [(9, .int (loW (dr (R 20) lm) K (j + 1))), (8, .int (loE (dr (R 20) lm) K (j + 1))), (11, .int (dr (R 20) lm j)), (0, .ref (ad 0)), (1, .int x), (2, .ref (ad 34)), (3, .ref (ad 35)), (4, .ref (ad 36)), (5, .ref (ad 37)), (6, .int (lfS (dr (R 20) lm) x K)), (7, .int (nI K)), (10, .int (nI j))]) hx hb dL_isAhead_100 hl (by decide) rfl (fun ls hl => ?_)
                  refine lv_iinc (k := 11) (v := (nI (j + 1))) (lv' := [(10, .int (nI (j + 1))), (9, .int (loW (dr (R 20) lm) K (j + 1))), (8, .int (loE (dr (R 20) lm) K (j + 1))), (11, .int (dr (R 20) lm j)), (0, .ref (ad 0)), (1, .int x), (2, .ref (ad 34)), (3, .ref (ad 35)), (4, .ref (ad 36)), (5, .ref (ad 37)), (6, .int (lfS (dr (R 20) lm) x K)), (7, .int (nI K))]) hx hb dL_isAhead_102 hl rfl (nI_add j 1) (by decide) rfl (fun ls hl => ?_)
                  refine lv_goto (tgt := 24) hx hb dL_isAhead_105 (by decide) ?_
                  exact ih_24 (j + 1) _ _ _ (by omega) (by omega) hP hS (lv_sub hl [4, 5, 6, 7, 8, 9, 10, 11, 2, 1, 0] rfl)
            · refine lv_bipush (v := 8) hx hb dL_isAhead_61 (by decide) ?_
              refine lv_iload hx hb dL_isAhead_63 (lv_at hl 0 rfl) ?_
              refine lv_imul hx hb dL_isAhead_65 ?_
              refine lv_iload hx hb dL_isAhead_66 (lv_at hl 0 rfl) ?_
              refine lv_imul hx hb dL_isAhead_68 ?_
              refine lv_goto (tgt := 73) hx hb dL_isAhead_69 (by decide) ?_
              refine lv_iadd hx hb dL_isAhead_73 ?_
              refine cx_top (show ((loE (dr (R 20) lm) K j) + ((8 * (dr (R 20) lm j)) * (dr (R 20) lm j))) = (loE (dr (R 20) lm) K (j + 1)) from le_f c_58) ?_
              refine lv_istore (lv' := [(8, .int (loE (dr (R 20) lm) K (j + 1))), (11, .int (dr (R 20) lm j)), (0, .ref (ad 0)), (1, .int x), (2, .ref (ad 34)), (3, .ref (ad 35)), (4, .ref (ad 36)), (5, .ref (ad 37)), (6, .int (lfS (dr (R 20) lm) x K)), (7, .int (nI K)), (9, .int (loW (dr (R 20) lm) K j)), (10, .int (nI j))]) hx hb dL_isAhead_74 hl (by decide) rfl (fun ls hl => ?_)
              refine lv_iload hx hb dL_isAhead_76 (lv_at hl 10 rfl) ?_
              refine lv_iload hx hb dL_isAhead_78 (lv_at hl 9 rfl) ?_
              refine lv_iload hx hb dL_isAhead_80 (lv_at hl 11 rfl) ?_
              refine lv_ishr hx hb dL_isAhead_82 ?_
              refine lv_iconst (v := 1) hx hb dL_isAhead_83 (by decide) ?_
              refine lv_iand hx hb dL_isAhead_84 ?_
              refine cx_top (show (((nI K) >>> ((nI j) &&& 31)) &&& 1) = (lbI K j) from lb_shr (by omega) (by omega)) ?_
              refine lv_iconst (v := 1) hx hb dL_isAhead_85 (by decide) ?_
              refine lv_icmp_ne (tgt := 98) hx hb dL_isAhead_86 (by decide) (fun c_86 => ?_) (fun c_86 => ?_)
              · refine lv_iconst (v := 0) hx hb dL_isAhead_98 (by decide) ?_
                refine lv_iadd hx hb dL_isAhead_99 ?_
                refine cx_top (show ((loW (dr (R 20) lm) K j) + 0) = (loW (dr (R 20) lm) K (j + 1)) from lw_a c_86) ?_
                refine lv_istore (lv' := [(9, .int (loW (dr (R 20) lm) K (j + 1))), (8, .int (loE (dr (R 20) lm) K (j + 1))), (11, .int (dr (R 20) lm j)), (0, .ref (ad 0)), (1, .int x), (2, .ref (ad 34)), (3, .ref (ad 35)), (4, .ref (ad 36)), (5, .ref (ad 37)), (6, .int (lfS (dr (R 20) lm) x K)), (7, .int (nI K)), (10, .int (nI j))]) hx hb dL_isAhead_100 hl (by decide) rfl (fun ls hl => ?_)
                refine lv_iinc (k := 11) (v := (nI (j + 1))) (lv' := [(10, .int (nI (j + 1))), (9, .int (loW (dr (R 20) lm) K (j + 1))), (8, .int (loE (dr (R 20) lm) K (j + 1))), (11, .int (dr (R 20) lm j)), (0, .ref (ad 0)), (1, .int x), (2, .ref (ad 34)), (3, .ref (ad 35)), (4, .ref (ad 36)), (5, .ref (ad 37)), (6, .int (lfS (dr (R 20) lm) x K)), (7, .int (nI K))]) hx hb dL_isAhead_102 hl rfl (nI_add j 1) (by decide) rfl (fun ls hl => ?_)
                refine lv_goto (tgt := 24) hx hb dL_isAhead_105 (by decide) ?_
                exact ih_24 (j + 1) _ _ _ (by omega) (by omega) hP hS (lv_sub hl [4, 5, 6, 7, 8, 9, 10, 11, 2, 1, 0] rfl)
              · refine lv_iload hx hb dL_isAhead_89 (lv_at hl 1 rfl) ?_
                refine lv_if_eq (tgt := 98) hx hb dL_isAhead_91 (by decide) (fun c_91 => ?_) (fun c_91 => ?_)
                · refine lv_iconst (v := 0) hx hb dL_isAhead_98 (by decide) ?_
                  refine lv_iadd hx hb dL_isAhead_99 ?_
                  refine cx_top (show ((loW (dr (R 20) lm) K j) + 0) = (loW (dr (R 20) lm) K (j + 1)) from lw_b c_86 c_91) ?_
                  refine lv_istore (lv' := [(9, .int (loW (dr (R 20) lm) K (j + 1))), (8, .int (loE (dr (R 20) lm) K (j + 1))), (11, .int (dr (R 20) lm j)), (0, .ref (ad 0)), (1, .int x), (2, .ref (ad 34)), (3, .ref (ad 35)), (4, .ref (ad 36)), (5, .ref (ad 37)), (6, .int (lfS (dr (R 20) lm) x K)), (7, .int (nI K)), (10, .int (nI j))]) hx hb dL_isAhead_100 hl (by decide) rfl (fun ls hl => ?_)
                  refine lv_iinc (k := 11) (v := (nI (j + 1))) (lv' := [(10, .int (nI (j + 1))), (9, .int (loW (dr (R 20) lm) K (j + 1))), (8, .int (loE (dr (R 20) lm) K (j + 1))), (11, .int (dr (R 20) lm j)), (0, .ref (ad 0)), (1, .int x), (2, .ref (ad 34)), (3, .ref (ad 35)), (4, .ref (ad 36)), (5, .ref (ad 37)), (6, .int (lfS (dr (R 20) lm) x K)), (7, .int (nI K))]) hx hb dL_isAhead_102 hl rfl (nI_add j 1) (by decide) rfl (fun ls hl => ?_)
                  refine lv_goto (tgt := 24) hx hb dL_isAhead_105 (by decide) ?_
                  exact ih_24 (j + 1) _ _ _ (by omega) (by omega) hP hS (lv_sub hl [4, 5, 6, 7, 8, 9, 10, 11, 2, 1, 0] rfl)
                · refine lv_iconst (v := 1) hx hb dL_isAhead_94 (by decide) ?_
                  refine lv_goto (tgt := 99) hx hb dL_isAhead_95 (by decide) ?_
                  refine lv_iadd hx hb dL_isAhead_99 ?_
                  refine cx_top (show ((loW (dr (R 20) lm) K j) + 1) = (loW (dr (R 20) lm) K (j + 1)) from lw_c c_86 c_91) ?_
                  refine lv_istore (lv' := [(9, .int (loW (dr (R 20) lm) K (j + 1))), (8, .int (loE (dr (R 20) lm) K (j + 1))), (11, .int (dr (R 20) lm j)), (0, .ref (ad 0)), (1, .int x), (2, .ref (ad 34)), (3, .ref (ad 35)), (4, .ref (ad 36)), (5, .ref (ad 37)), (6, .int (lfS (dr (R 20) lm) x K)), (7, .int (nI K)), (10, .int (nI j))]) hx hb dL_isAhead_100 hl (by decide) rfl (fun ls hl => ?_)
                  refine lv_iinc (k := 11) (v := (nI (j + 1))) (lv' := [(10, .int (nI (j + 1))), (9, .int (loW (dr (R 20) lm) K (j + 1))), (8, .int (loE (dr (R 20) lm) K (j + 1))), (11, .int (dr (R 20) lm j)), (0, .ref (ad 0)), (1, .int x), (2, .ref (ad 34)), (3, .ref (ad 35)), (4, .ref (ad 36)), (5, .ref (ad 37)), (6, .int (lfS (dr (R 20) lm) x K)), (7, .int (nI K))]) hx hb dL_isAhead_102 hl rfl (nI_add j 1) (by decide) rfl (fun ls hl => ?_)
                  refine lv_goto (tgt := 24) hx hb dL_isAhead_105 (by decide) ?_
                  exact ih_24 (j + 1) _ _ _ (by omega) (by omega) hP hS (lv_sub hl [4, 5, 6, 7, 8, 9, 10, 11, 2, 1, 0] rfl)

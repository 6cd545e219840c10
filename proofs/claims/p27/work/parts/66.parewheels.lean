set_option maxHeartbeats 4000000 in
set_option maxRecDepth 100000 in
theorem c_L_areWheels (l : Launch) (D : va_G) (T : Nat → ClassId) (ad : Nat → Nat) (I : Nat → Int32) (R : Nat → Nat → Int32) (sz : Nat) (lm : Nat) (hAD : AD 39 ad) (hm : lm < 256) (hI : I 4 = nI lm) (h0 : R 0 = R 20) (h1 : R 1 = R 22) (hb1 : R 21 = lbI lm) (hbd : BdA (R 20)) (hbp : BdP (R 22)) : Met l yL_areWheels wsL_areWheels ({ frames := 7, cells := 1, slots := 8, locals := 150 }) (va_Pc [.ref (ad 0), .ref (ad 34), .ref (ad 35), .ref (ad 36)] (PB D T ad I R sz)) (va_Qi (fun r (u9 : Unit) => r = 1 ∧ True) (fun (u9 : Unit) t => va_P D vwCl (pw T ad I R) t.heap) (cA 39 ad sz)) 1 8 (cA 39 ad sz) := by
  refine Met.ofW (cc := cL_areWheels) (maxL := 10) (ret := (some .boolean)) (by decide) rfl ?_
  intro p e s m args_ below meth c s₁ B hml hv
  obtain ⟨rfl, hsz, hP, hK, hN, hXU, hXZ, hNc⟩ := hv
  have hx := B.exec
  have hb := B.bytes
  have hr := B.returns
  have hts := atoms_spec (ws := wsL_areWheels) B.pre
  have hown : s.vm.findClass RL = some m.cls := findClass_of_methodNamed B.named
  have hlocks := B.notSynchronized
  subst hsz
  have hS : va_S (cA 39 ad s.heap.size) s.heap s.heap [] := va_S.rf
  have hD : ∀ I R, va_D (cA 39 ad s.heap.size) (pw T ad I R) := fun I R => pw_D hAD (fun k hk => cA_in hk)
  have hl := lv_entry ([.ref (ad 0), .ref (ad 34), .ref (ad 35), .ref (ad 36)]) (n := 10) (Nat.le_of_ble_eq_true rfl)
  rw [lg_entry_eq]
  generalize (lg_sl ([.ref (ad 0), .ref (ad 34), .ref (ad 35), .ref (ad 36)]) ++ List.replicate (10 - (lg_sl ([.ref (ad 0), .ref (ad 34), .ref (ad 35), .ref (ad 36)])).length) Slot.unset).toArray = ls at hl ⊢
  have hl : lv_has ls 10 [(0, .ref (ad 0)), (1, .ref (ad 34)), (2, .ref (ad 35)), (3, .ref (ad 36))] := hl
  refine lv_iconst (v := 0) hx hb dL_areWheels_0 (by decide) ?_
  refine lv_istore (lv' := [(4, .int 0), (0, .ref (ad 0)), (1, .ref (ad 34)), (2, .ref (ad 35)), (3, .ref (ad 36))]) hx hb dL_areWheels_1 hl (by decide) rfl (fun ls hl => ?_)
  refine lv_bipush (v := 8) hx hb dL_areWheels_3 (by decide) ?_
  refine cx_newi hx hb (hts (.arrayClass .int) (by decide +kernel)) hK hP (hD _ _) hS (fun q h => cA_new h) 8 (by decide) rfl (by decide) (Nat.le_of_ble_eq_true rfl) (Nat.le_of_ble_eq_true rfl) dL_areWheels_5 (fun aq H hP hD9 hS => ?_)
  have hP := qw_new hP
  have hQ := qw_AD (qw_newD hD9)
  clear hD9 hD
  have hD : ∀ I R, va_D (cA 39 ad s.heap.size) (qw T (adq ad aq) I R) := fun I R => qw_D hQ.1 hQ.2
  have hl : lv_has ls 10 [(4, .int 0), (0, .ref ((adq ad aq) 0)), (1, .ref ((adq ad aq) 34)), (2, .ref ((adq ad aq) 35)), (3, .ref ((adq ad aq) 36))] := hl
  refine W.widen (k := 1) (n := 8) (by decide) (by decide) ?_
  refine lv_astore (lv' := [(5, .ref ((adq ad aq) 39)), (4, .int 0), (0, .ref ((adq ad aq) 0)), (1, .ref ((adq ad aq) 34)), (2, .ref ((adq ad aq) 35)), (3, .ref ((adq ad aq) 36))]) hx hb dL_areWheels_7 hl (by decide) rfl (fun ls hl => ?_)
  refine lv_iconst (v := 0) hx hb dL_areWheels_9 (by decide) ?_
  refine lv_istore (lv' := [(6, .int 0), (5, .ref ((adq ad aq) 39)), (4, .int 0), (0, .ref ((adq ad aq) 0)), (1, .ref ((adq ad aq) 34)), (2, .ref ((adq ad aq) 35)), (3, .ref ((adq ad aq) 36))]) hx hb dL_areWheels_10 hl (by decide) rfl (fun ls hl => ?_)
  suffices ih_12 : ∀ (fu : Nat) (i : Nat) (f : Nat → Int32) (H : Heap) (locs : List Loc) (ls : Array Slot), 8 - i < fu → (i ≤ 8) → (∀ k, k < i → f k = R 22 k) → va_P D vwCl (qw T (adq ad aq) I (updR R 25 f)) H →  va_S (cA 39 ad s.heap.size) s.heap H locs → lv_has ls 10 [(0, .ref ((adq ad aq) 0)), (1, .ref ((adq ad aq) 34)), (2, .ref ((adq ad aq) 35)), (3, .ref ((adq ad aq) 36)), (4, .int 0), (5, .ref ((adq ad aq) 39)), (6, .int (nI i))] → W p l e (headSpec wsL_areWheels ({ frames := 7, cells := 1, slots := 8, locals := 150 })).room s m ([.ref (ad 0), .ref (ad 34), .ref (ad 35), .ref (ad 36)] : List Value).toArray below meth c H locs 1 8 (MQ below (va_Qi (fun r (u9 : Unit) => r = 1 ∧ True) (fun (u9 : Unit) t => va_P D vwCl (pw T ad I R) t.heap) (cA 39 ad s.heap.size)) ([.ref (ad 0), .ref (ad 34), .ref (ad 35), .ref (ad 36)] : List Value).toArray s 1 8 (cA 39 ad s.heap.size)) (F0 m 12 ls []) from
    ih_12 _ 0 (fun _ => 0) _ _ _ (Nat.lt_succ_self _) (by omega) (fun k h => absurd h (Nat.not_lt_zero k)) hP hS (lv_sub hl [3, 4, 5, 6, 2, 1, 0] rfl)
  intro fu
  induction fu with
  | zero => intro i f H locs ls hfu; exact absurd hfu (Nat.not_lt_zero _)
  | succ fu ih_12 =>
    intro i f H locs ls hfu hi hf hP hS hl
    refine lv_iload hx hb dL_areWheels_12 (lv_at hl 6 rfl) ?_
    refine lv_bipush (v := 8) hx hb dL_areWheels_14 (by decide) ?_
    refine lv_icmp_ge (tgt := 34) hx hb dL_areWheels_16 (by decide) (fun c_16 => ?_) (fun c_16 => ?_)
    · have c_16 : 8 ≤ i := (nI_leI (a := 8) (b := i) (by omega) (by omega)).mp c_16
      obtain rfl : i = 8 := by omega
      refine lv_aload hx hb dL_areWheels_34 (lv_at hl 5 rfl) ?_
      refine cx_wv (va_runS (As := [.ref ((adq ad aq) 39)]) (rest := []) ⟨hx, hb, hml, hown, hts⟩ (c_L_halves l D T (fun _ => (adq ad aq) 39) (fun _ => 0) (fun _ => f) _ AD_1) (va_cwS 1 hts gL_areWheels_L_halves rfl rfl rfl (by decide +kernel) ⟨Nat.le_of_ble_eq_true rfl, Nat.le_of_ble_eq_true rfl⟩) ⟨YB.blind, YB.pre (hw_of (I := fun _ => 0) hP qw_39) hK rfl⟩ rfl rfl hl.1 rfl (lv_room (Nat.le_of_ble_eq_true rfl)) dL_areWheels_36 ⟨Nat.le_of_ble_eq_true rfl, Nat.le_of_ble_eq_true rfl⟩) hS (cA_sub (fun _ _ => hQ.2 39 (by decide)) (fun q hq => cA_new (Nat.le_trans hS.1 hq))) (cA_sub (fun _ _ => hQ.2 39 (by decide)) (fun q hq => cA_new (Nat.le_trans hS.1 hq))) (fun u_36 H locs hu_36 hP1 hkk hS => ?_)
      have hP := hw_join (g := (fun n => trS (R 22) n 8)) hP (hD _ _) qw_39 hkk hP1 (fun j hj => (hu_36 j hj).trans (trS_congr hf)) qw_R25
      have hP := updQ hP
      refine lv_iconst (v := 0) hx hb dL_areWheels_39 (by decide) ?_
      refine lv_istore (lv' := [(6, .int 0), (0, .ref ((adq ad aq) 0)), (1, .ref ((adq ad aq) 34)), (2, .ref ((adq ad aq) 35)), (3, .ref ((adq ad aq) 36)), (4, .int 0), (5, .ref ((adq ad aq) 39))]) hx hb dL_areWheels_40 hl (by decide) rfl (fun ls hl => ?_)
      suffices ih_42 : ∀ (fu : Nat) (i : Nat) (H : Heap) (locs : List Loc) (ls : Array Slot), 8 - i < fu → (i ≤ 8) → va_P D vwCl (qw T (adq ad aq) I (updR R 25 (fun n => trS (R 22) n 8))) H →  va_S (cA 39 ad s.heap.size) s.heap H locs → lv_has ls 10 [(0, .ref ((adq ad aq) 0)), (1, .ref ((adq ad aq) 34)), (2, .ref ((adq ad aq) 35)), (3, .ref ((adq ad aq) 36)), (4, .int (loB lm i)), (5, .ref ((adq ad aq) 39)), (6, .int (nI i))] → W p l e (headSpec wsL_areWheels ({ frames := 7, cells := 1, slots := 8, locals := 150 })).room s m ([.ref (ad 0), .ref (ad 34), .ref (ad 35), .ref (ad 36)] : List Value).toArray below meth c H locs 1 8 (MQ below (va_Qi (fun r (u9 : Unit) => r = 1 ∧ True) (fun (u9 : Unit) t => va_P D vwCl (pw T ad I R) t.heap) (cA 39 ad s.heap.size)) ([.ref (ad 0), .ref (ad 34), .ref (ad 35), .ref (ad 36)] : List Value).toArray s 1 8 (cA 39 ad s.heap.size)) (F0 m 42 ls []) from
        ih_42 _ 0 _ _ _ (Nat.lt_succ_self _) (by omega) hP hS (lv_sub hl [1, 2, 3, 4, 5, 6, 0] rfl)
      intro fu
      induction fu with
      | zero => intro i H locs ls hfu; exact absurd hfu (Nat.not_lt_zero _)
      | succ fu ih_42 =>
        intro i H locs ls hfu hi hP hS hl
        refine lv_iload hx hb dL_areWheels_42 (lv_at hl 6 rfl) ?_
        refine lv_bipush (v := 8) hx hb dL_areWheels_44 (by decide) ?_
        refine lv_icmp_ge (tgt := 172) hx hb dL_areWheels_46 (by decide) (fun c_46 => ?_) (fun c_46 => ?_)
        · have c_46 : 8 ≤ i := (nI_leI (a := 8) (b := i) (by omega) (by omega)).mp c_46
          obtain rfl : i = 8 := by omega
          refine lv_iconst (v := 0) hx hb dL_areWheels_172 (by decide) ?_
          refine lv_istore (lv' := [(6, .int 0), (0, .ref ((adq ad aq) 0)), (1, .ref ((adq ad aq) 34)), (2, .ref ((adq ad aq) 35)), (3, .ref ((adq ad aq) 36)), (4, .int (loB lm 8)), (5, .ref ((adq ad aq) 39))]) hx hb dL_areWheels_173 hl (by decide) rfl (fun ls hl => ?_)
          refine lv_iconst (v := 0) hx hb dL_areWheels_175 (by decide) ?_
          refine lv_istore (lv' := [(7, .int 0), (6, .int 0), (0, .ref ((adq ad aq) 0)), (1, .ref ((adq ad aq) 34)), (2, .ref ((adq ad aq) 35)), (3, .ref ((adq ad aq) 36)), (4, .int (loB lm 8)), (5, .ref ((adq ad aq) 39))]) hx hb dL_areWheels_176 hl (by decide) rfl (fun ls hl => ?_)
          refine lv_iconst (v := 0) hx hb dL_areWheels_178 (by decide) ?_
          refine lv_istore (lv' := [(8, .int 0), (7, .int 0), (6, .int 0), (0, .ref ((adq ad aq) 0)), (1, .ref ((adq ad aq) 34)), (2, .ref ((adq ad aq) 35)), (3, .ref ((adq ad aq) 36)), (4, .int (loB lm 8)), (5, .ref ((adq ad aq) 39))]) hx hb dL_areWheels_179 hl (by decide) rfl (fun ls hl => ?_)
          suffices ih_181 : ∀ (fu : Nat) (j : Nat) (H : Heap) (locs : List Loc) (ls : Array Slot), 8 - j < fu → (j ≤ 8) → va_P D vwCl (qw T (adq ad aq) I (updR R 25 (fun n => trS (R 22) n 8))) H →  va_S (cA 39 ad s.heap.size) s.heap H locs → lv_has ls 10 [(0, .ref ((adq ad aq) 0)), (1, .ref ((adq ad aq) 34)), (2, .ref ((adq ad aq) 35)), (3, .ref ((adq ad aq) 36)), (4, .int (loB lm 8)), (5, .ref ((adq ad aq) 39)), (6, .int (mxS (dr (R 20) lm) j)), (7, .int (sqS (dr (R 20) lm) j)), (8, .int (nI j))] → W p l e (headSpec wsL_areWheels ({ frames := 7, cells := 1, slots := 8, locals := 150 })).room s m ([.ref (ad 0), .ref (ad 34), .ref (ad 35), .ref (ad 36)] : List Value).toArray below meth c H locs 1 8 (MQ below (va_Qi (fun r (u9 : Unit) => r = 1 ∧ True) (fun (u9 : Unit) t => va_P D vwCl (pw T ad I R) t.heap) (cA 39 ad s.heap.size)) ([.ref (ad 0), .ref (ad 34), .ref (ad 35), .ref (ad 36)] : List Value).toArray s 1 8 (cA 39 ad s.heap.size)) (F0 m 181 ls []) from
            ih_181 _ 0 _ _ _ (Nat.lt_succ_self _) (by omega) hP hS (lv_sub hl [3, 4, 5, 6, 7, 8, 2, 1, 0] rfl)
          intro fu
          induction fu with
          | zero => intro j H locs ls hfu; exact absurd hfu (Nat.not_lt_zero _)
          | succ fu ih_181 =>
            intro j H locs ls hfu hj9 hP hS hl
            refine lv_iload hx hb dL_areWheels_181 (lv_at hl 8 rfl) ?_
            refine lv_bipush (v := 8) hx hb dL_areWheels_183 (by decide) ?_
            refine lv_icmp_ge (tgt := 240) hx hb dL_areWheels_185 (by decide) (fun c_185 => ?_) (fun c_185 => ?_)
            · have c_185 : 8 ≤ j := (nI_leI (a := 8) (b := j) (by omega) (by omega)).mp c_185
              obtain rfl : j = 8 := by omega
              refine lv_aload_n hx hb dL_areWheels_240 rfl (lv_at hl 0 rfl) ?_
              refine lv_iconst (v := 0) hx hb dL_areWheels_241 (by decide) ?_
              refine cx_ri (va_runV (As := [.int 0]) (rest := []) ⟨hx, hb, hml, hown, hts⟩ (c_X3_count l D T (adq ad aq) I (updR R 25 (fun n => trS (R 22) n 8)) lm 0 (hm) (hI) (by decide)) (cwV 1 hts gL_areWheels_X3_count rfl rfl rfl (by decide +kernel) ⟨Nat.le_of_ble_eq_true rfl, Nat.le_of_ble_eq_true rfl⟩) ⟨CR.blind, va_recv hK hP (ci := 3) (q0 := 0) rfl qw_0, CR.pre (qw_c hP) hK hN rfl⟩ rfl rfl hl.1 rfl (lv_room (Nat.le_of_ble_eq_true rfl)) dL_areWheels_242 ⟨Nat.le_of_ble_eq_true rfl, Nat.le_of_ble_eq_true rfl⟩) hS hP (fun H locs hP hS => ?_)
              refine cx_top (y := (cnF ((R 0)) ((R 1)) lm (I 5) (I 2) 0)) rfl ?_
              refine lv_aload_n hx hb dL_areWheels_245 rfl (lv_at hl 1 rfl) ?_
              refine cx_ri (va_runS (As := [.ref ((adq ad aq) 34)]) (rest := [.int (cnF ((R 0)) ((R 1)) lm (I 5) (I 2) 0)]) ⟨hx, hb, hml, hown, hts⟩ (c_L_turning l D T (fun _ => (adq ad aq) 34) (fun _ => 0) (fun _ => (R 20))) (va_cwS 1 hts gL_areWheels_L_turning rfl rfl rfl (by decide +kernel) ⟨Nat.le_of_ble_eq_true rfl, Nat.le_of_ble_eq_true rfl⟩) ⟨YR.blind, YR.pre (hw_of (I := fun _ => 0) hP qw_34) hK rfl⟩ rfl rfl hl.1 rfl (lv_room (Nat.le_of_ble_eq_true rfl)) dL_areWheels_246 ⟨Nat.le_of_ble_eq_true rfl, Nat.le_of_ble_eq_true rfl⟩) hS hP (fun H locs hP hS => ?_)
              refine lv_icmp_ne (tgt := 290) hx hb dL_areWheels_249 (by decide) (fun c_249 => ?_) (fun c_249 => ?_)
              · exact absurd (cn0.trans (by rw [h0])) c_249
              · refine lv_aload_n hx hb dL_areWheels_252 rfl (lv_at hl 0 rfl) ?_
                refine lv_iconst (v := 1) hx hb dL_areWheels_253 (by decide) ?_
                refine cx_ri (va_runV (As := [.int 1]) (rest := []) ⟨hx, hb, hml, hown, hts⟩ (c_X3_count l D T (adq ad aq) I (updR R 25 (fun n => trS (R 22) n 8)) lm 1 (hm) (hI) (by decide)) (cwV 1 hts gL_areWheels_X3_count rfl rfl rfl (by decide +kernel) ⟨Nat.le_of_ble_eq_true rfl, Nat.le_of_ble_eq_true rfl⟩) ⟨CR.blind, va_recv hK hP (ci := 3) (q0 := 0) rfl qw_0, CR.pre (qw_c hP) hK hN rfl⟩ rfl rfl hl.1 rfl (lv_room (Nat.le_of_ble_eq_true rfl)) dL_areWheels_254 ⟨Nat.le_of_ble_eq_true rfl, Nat.le_of_ble_eq_true rfl⟩) hS hP (fun H locs hP hS => ?_)
                refine cx_top (y := (cnF ((R 0)) ((R 1)) lm (I 5) (I 2) 1)) rfl ?_
                refine lv_iload hx hb dL_areWheels_257 (lv_at hl 4 rfl) ?_
                refine lv_icmp_ne (tgt := 290) hx hb dL_areWheels_259 (by decide) (fun c_259 => ?_) (fun c_259 => ?_)
                · exact absurd (cn1.trans (lo_bc hm)) c_259
                · refine lv_aload_n hx hb dL_areWheels_262 rfl (lv_at hl 0 rfl) ?_
                  refine cx_rd (va_runV (As := []) (rest := []) ⟨hx, hb, hml, hown, hts⟩ (c_X3_mainShare l D T (adq ad aq) I (updR R 25 (fun n => trS (R 22) n 8)) lm (hm) (hI) (fp_nnd)) (cwV 0 hts gL_areWheels_X3_mainShare rfl rfl rfl (by decide +kernel) ⟨Nat.le_of_ble_eq_true rfl, Nat.le_of_ble_eq_true rfl⟩) ⟨CR.blind, va_recv hK hP (ci := 3) (q0 := 0) rfl qw_0, CR.pre (qw_c hP) hK hN rfl⟩ rfl rfl hl.1 rfl (lv_room (Nat.le_of_ble_eq_true rfl)) dL_areWheels_263 ⟨Nat.le_of_ble_eq_true rfl, Nat.le_of_ble_eq_true rfl⟩) hS hP (fun H locs hP hS => ?_)
                  refine lv_iload hx hb dL_areWheels_266 (lv_at hl 7 rfl) ?_
                  refine lv_if_ne (tgt := 275) hx hb dL_areWheels_268 (by decide) (fun c_268 => ?_) (fun c_268 => ?_)
                  · refine lv_iload hx hb dL_areWheels_275 (lv_at hl 6 rfl) ?_
                    refine lv_i2d hx hb dL_areWheels_277 ?_
                    refine lv_iload hx hb dL_areWheels_278 (lv_at hl 7 rfl) ?_
                    refine lv_i2d hx hb dL_areWheels_280 ?_
                    refine lv_ddiv hx hb dL_areWheels_281 (fp_nnd _ _ c_268) ?_
                    refine lv_dcmp hx hb dL_areWheels_282 ?_
                    refine cx_top (show (Op.cmpValue (FP.dcmp (msF (dr ((R 0)) lm)) (FP.ddiv (FP.i2d (mxS (dr (R 20) lm) 8)) (FP.i2d (sqS (dr (R 20) lm) 8)))) .l) = 0 from by rw [h0]; first | exact ms_a c_268 _ | exact ms_b c_268 _) ?_
                    refine lv_if_ne (tgt := 290) hx hb dL_areWheels_283 (by decide) (fun c_283 => absurd c_283 (by decide)) (fun c_283 => ?_)
                    refine lv_iconst (v := 1) hx hb dL_areWheels_286 (by decide) ?_
                    refine lv_goto (tgt := 291) hx hb dL_areWheels_287 (by decide) ?_
                    exact W.zret (v := 1) hx hb hr (rfl) (fun t ht hW => ⟨⟨1, (), rfl, ⟨rfl, trivial⟩, by show va_P _ _ _ _; rw [ht]; exact (qw_pw hP)⟩, hS.F ht⟩) hS.2.2 dL_areWheels_291
                  · refine lv_dconst0 hx hb dL_areWheels_271 ?_
                    refine lv_goto (tgt := 282) hx hb dL_areWheels_272 (by decide) ?_
                    refine lv_dcmp hx hb dL_areWheels_282 ?_
                    refine cx_top (show (Op.cmpValue (FP.dcmp (msF (dr ((R 0)) lm)) FP.dconst0) .l) = 0 from by rw [h0]; first | exact ms_a c_268 _ | exact ms_b c_268 _) ?_
                    refine lv_if_ne (tgt := 290) hx hb dL_areWheels_283 (by decide) (fun c_283 => absurd c_283 (by decide)) (fun c_283 => ?_)
                    refine lv_iconst (v := 1) hx hb dL_areWheels_286 (by decide) ?_
                    refine lv_goto (tgt := 291) hx hb dL_areWheels_287 (by decide) ?_
                    exact W.zret (v := 1) hx hb hr (rfl) (fun t ht hW => ⟨⟨1, (), rfl, ⟨rfl, trivial⟩, by show va_P _ _ _ _; rw [ht]; exact (qw_pw hP)⟩, hS.F ht⟩) hS.2.2 dL_areWheels_291
            · have c_185 : ¬ (8 ≤ j) := fun h => c_185 ((nI_leI (a := 8) (b := j) (by omega) (by omega)).mpr h)
              refine lv_aload_n hx hb dL_areWheels_188 rfl (lv_at hl 2 rfl) ?_
              refine lv_iload hx hb dL_areWheels_189 (lv_at hl 8 rfl) ?_
              refine cx_iald (k := j) hx hb hK hP 35 1 qw_35 rfl (by omega) (by decide) dL_areWheels_191 ?_
              refine cx_top (y := ((R 21) j)) rfl ?_
              refine lv_iconst (v := 1) hx hb dL_areWheels_192 (by decide) ?_
              refine lv_icmp_ne (tgt := 200) hx hb dL_areWheels_193 (by decide) (fun c_193 => ?_) (fun c_193 => ?_)
              · refine lv_aload_n hx hb dL_areWheels_200 rfl (lv_at hl 1 rfl) ?_
                refine lv_iload hx hb dL_areWheels_201 (lv_at hl 8 rfl) ?_
                refine cx_iald (k := j) hx hb hK hP 34 1 qw_34 rfl (by omega) (by decide) dL_areWheels_203 ?_
                refine cx_top (y := ((R 20) j)) rfl ?_
                refine lv_aload_n hx hb dL_areWheels_204 rfl (lv_at hl 1 rfl) ?_
                refine lv_iload hx hb dL_areWheels_205 (lv_at hl 8 rfl) ?_
                refine cx_iald (k := j) hx hb hK hP 34 1 qw_34 rfl (by omega) (by decide) dL_areWheels_207 ?_
                refine cx_top (y := ((R 20) j)) rfl ?_
                refine lv_imul hx hb dL_areWheels_208 ?_
                refine cx_top (show (((R 20) j) * ((R 20) j)) = (dr (R 20) lm j * dr (R 20) lm j) from by first | exact sq_e (dq_t (a := R 20) hb1 c_193) | exact sq_z (dq_f (a := R 20) hb1 c_193)) ?_
                refine lv_istore (lv' := [(9, .int (dr (R 20) lm j * dr (R 20) lm j)), (0, .ref ((adq ad aq) 0)), (1, .ref ((adq ad aq) 34)), (2, .ref ((adq ad aq) 35)), (3, .ref ((adq ad aq) 36)), (4, .int (loB lm 8)), (5, .ref ((adq ad aq) 39)), (6, .int (mxS (dr (R 20) lm) j)), (7, .int (sqS (dr (R 20) lm) j)), (8, .int (nI j))]) hx hb dL_areWheels_209 hl (by decide) rfl (fun ls hl => ?_)
                refine lv_iload hx hb dL_areWheels_211 (lv_at hl 0 rfl) ?_
                refine lv_iload hx hb dL_areWheels_213 (lv_at hl 7 rfl) ?_
                refine lv_icmp_le (tgt := 223) hx hb dL_areWheels_215 (by decide) (fun c_215 => ?_) (fun c_215 => ?_)
                · refine lv_iload hx hb dL_areWheels_223 (lv_at hl 7 rfl) ?_
                  refine cx_top (show (mxS (dr (R 20) lm) j) = (mxS (dr (R 20) lm) (j + 1)) from by first | exact mx_a c_215 | exact mx_b c_215) ?_
                  refine lv_istore (lv' := [(6, .int (mxS (dr (R 20) lm) (j + 1))), (9, .int (dr (R 20) lm j * dr (R 20) lm j)), (0, .ref ((adq ad aq) 0)), (1, .ref ((adq ad aq) 34)), (2, .ref ((adq ad aq) 35)), (3, .ref ((adq ad aq) 36)), (4, .int (loB lm 8)), (5, .ref ((adq ad aq) 39)), (7, .int (sqS (dr (R 20) lm) j)), (8, .int (nI j))]) hx hb dL_areWheels_225 hl (by decide) rfl (fun ls hl => ?_)
                  refine lv_iload hx hb dL_areWheels_227 (lv_at hl 8 rfl) ?_
                  refine lv_iload hx hb dL_areWheels_229 (lv_at hl 1 rfl) ?_
                  refine lv_iadd hx hb dL_areWheels_231 ?_
                  refine cx_top (show ((sqS (dr (R 20) lm) j) + (dr (R 20) lm j * dr (R 20) lm j)) = (sqS (dr (R 20) lm) (j + 1)) from rfl) ?_
                  refine lv_istore (lv' := [(7, .int (sqS (dr (R 20) lm) (j + 1))), (6, .int (mxS (dr (R 20) lm) (j + 1))), (9, .int (dr (R 20) lm j * dr (R 20) lm j)), (0, .ref ((adq ad aq) 0)), (1, .ref ((adq ad aq) 34)), (2, .ref ((adq ad aq) 35)), (3, .ref ((adq ad aq) 36)), (4, .int (loB lm 8)), (5, .ref ((adq ad aq) 39)), (8, .int (nI j))]) hx hb dL_areWheels_232 hl (by decide) rfl (fun ls hl => ?_)
                  refine lv_iinc (k := 9) (v := (nI (j + 1))) (lv' := [(8, .int (nI (j + 1))), (7, .int (sqS (dr (R 20) lm) (j + 1))), (6, .int (mxS (dr (R 20) lm) (j + 1))), (9, .int (dr (R 20) lm j * dr (R 20) lm j)), (0, .ref ((adq ad aq) 0)), (1, .ref ((adq ad aq) 34)), (2, .ref ((adq ad aq) 35)), (3, .ref ((adq ad aq) 36)), (4, .int (loB lm 8)), (5, .ref ((adq ad aq) 39))]) hx hb dL_areWheels_234 hl rfl (nI_add j 1) (by decide) rfl (fun ls hl => ?_)
                  refine lv_goto (tgt := 181) hx hb dL_areWheels_237 (by decide) ?_
                  exact ih_181 (j + 1) _ _ _ (by omega) (by omega) hP hS (lv_sub hl [4, 5, 6, 7, 8, 9, 2, 1, 0] rfl)
                · refine lv_iload hx hb dL_areWheels_218 (lv_at hl 0 rfl) ?_
                  refine lv_goto (tgt := 225) hx hb dL_areWheels_220 (by decide) ?_
                  refine cx_top (show (dr (R 20) lm j * dr (R 20) lm j) = (mxS (dr (R 20) lm) (j + 1)) from by first | exact mx_a c_215 | exact mx_b c_215) ?_
                  refine lv_istore (lv' := [(6, .int (mxS (dr (R 20) lm) (j + 1))), (9, .int (dr (R 20) lm j * dr (R 20) lm j)), (0, .ref ((adq ad aq) 0)), (1, .ref ((adq ad aq) 34)), (2, .ref ((adq ad aq) 35)), (3, .ref ((adq ad aq) 36)), (4, .int (loB lm 8)), (5, .ref ((adq ad aq) 39)), (7, .int (sqS (dr (R 20) lm) j)), (8, .int (nI j))]) hx hb dL_areWheels_225 hl (by decide) rfl (fun ls hl => ?_)
                  refine lv_iload hx hb dL_areWheels_227 (lv_at hl 8 rfl) ?_
                  refine lv_iload hx hb dL_areWheels_229 (lv_at hl 1 rfl) ?_
                  refine lv_iadd hx hb dL_areWheels_231 ?_
                  refine cx_top (show ((sqS (dr (R 20) lm) j) + (dr (R 20) lm j * dr (R 20) lm j)) = (sqS (dr (R 20) lm) (j + 1)) from rfl) ?_
                  refine lv_istore (lv' := [(7, .int (sqS (dr (R 20) lm) (j + 1))), (6, .int (mxS (dr (R 20) lm) (j + 1))), (9, .int (dr (R 20) lm j * dr (R 20) lm j)), (0, .ref ((adq ad aq) 0)), (1, .ref ((adq ad aq) 34)), (2, .ref ((adq ad aq) 35)), (3, .ref ((adq ad aq) 36)), (4, .int (loB lm 8)), (5, .ref ((adq ad aq) 39)), (8, .int (nI j))]) hx hb dL_areWheels_232 hl (by decide) rfl (fun ls hl => ?_)
                  refine lv_iinc (k := 9) (v := (nI (j + 1))) (lv' := [(8, .int (nI (j + 1))), (7, .int (sqS (dr (R 20) lm) (j + 1))), (6, .int (mxS (dr (R 20) lm) (j + 1))), (9, .int (dr (R 20) lm j * dr (R 20) lm j)), (0, .ref ((adq ad aq) 0)), (1, .ref ((adq ad aq) 34)), (2, .ref ((adq ad aq) 35)), (3, .ref ((adq ad aq) 36)), (4, .int (loB lm 8)), (5, .ref ((adq ad aq) 39))]) hx hb dL_areWheels_234 hl rfl (nI_add j 1) (by decide) rfl (fun ls hl => ?_)
                  refine lv_goto (tgt := 181) hx hb dL_areWheels_237 (by decide) ?_
                  exact ih_181 (j + 1) _ _ _ (by omega) (by omega) hP hS (lv_sub hl [4, 5, 6, 7, 8, 9, 2, 1, 0] rfl)
              · refine lv_iconst (v := 0) hx hb dL_areWheels_196 (by decide) ?_
                refine lv_goto (tgt := 209) hx hb dL_areWheels_197 (by decide) ?_
                refine cx_top (show 0 = (dr (R 20) lm j * dr (R 20) lm j) from by first | exact sq_e (dq_t (a := R 20) hb1 c_193) | exact sq_z (dq_f (a := R 20) hb1 c_193)) ?_
                refine lv_istore (lv' := [(9, .int (dr (R 20) lm j * dr (R 20) lm j)), (0, .ref ((adq ad aq) 0)), (1, .ref ((adq ad aq) 34)), (2, .ref ((adq ad aq) 35)), (3, .ref ((adq ad aq) 36)), (4, .int (loB lm 8)), (5, .ref ((adq ad aq) 39)), (6, .int (mxS (dr (R 20) lm) j)), (7, .int (sqS (dr (R 20) lm) j)), (8, .int (nI j))]) hx hb dL_areWheels_209 hl (by decide) rfl (fun ls hl => ?_)
                refine lv_iload hx hb dL_areWheels_211 (lv_at hl 0 rfl) ?_
                refine lv_iload hx hb dL_areWheels_213 (lv_at hl 7 rfl) ?_
                refine lv_icmp_le (tgt := 223) hx hb dL_areWheels_215 (by decide) (fun c_215 => ?_) (fun c_215 => ?_)
                · refine lv_iload hx hb dL_areWheels_223 (lv_at hl 7 rfl) ?_
                  refine cx_top (show (mxS (dr (R 20) lm) j) = (mxS (dr (R 20) lm) (j + 1)) from by first | exact mx_a c_215 | exact mx_b c_215) ?_
                  refine lv_istore (lv' := [(6, .int (mxS (dr (R 20) lm) (j + 1))), (9, .int (dr (R 20) lm j * dr (R 20) lm j)), (0, .ref ((adq ad aq) 0)), (1, .ref ((adq ad aq) 34)), (2, .ref ((adq ad aq) 35)), (3, .ref ((adq ad aq) 36)), (4, .int (loB lm 8)), (5, .ref ((adq ad aq) 39)), (7, .int (sqS (dr (R 20) lm) j)), (8, .int (nI j))]) hx hb dL_areWheels_225 hl (by decide) rfl (fun ls hl => ?_)
                  refine lv_iload hx hb dL_areWheels_227 (lv_at hl 8 rfl) ?_
                  refine lv_iload hx hb dL_areWheels_229 (lv_at hl 1 rfl) ?_
                  refine lv_iadd hx hb dL_areWheels_231 ?_
                  refine cx_top (show ((sqS (dr (R 20) lm) j) + (dr (R 20) lm j * dr (R 20) lm j)) = (sqS (dr (R 20) lm) (j + 1)) from rfl) ?_
                  refine lv_istore (lv' := [(7, .int (sqS (dr (R 20) lm) (j + 1))), (6, .int (mxS (dr (R 20) lm) (j + 1))), (9, .int (dr (R 20) lm j * dr (R 20) lm j)), (0, .ref ((adq ad aq) 0)), (1, .ref ((adq ad aq) 34)), (2, .ref ((adq ad aq) 35)), (3, .ref ((adq ad aq) 36)), (4, .int (loB lm 8)), (5, .ref ((adq ad aq) 39)), (8, .int (nI j))]) hx hb dL_areWheels_232 hl (by decide) rfl (fun ls hl => ?_)
                  refine lv_iinc (k := 9) (v := (nI (j + 1))) (lv' := [(8, .int (nI (j + 1))), (7, .int (sqS (dr (R 20) lm) (j + 1))), (6, .int (mxS (dr (R 20) lm) (j + 1))), (9, .int (dr (R 20) lm j * dr (R 20) lm j)), (0, .ref ((adq ad aq) 0)), (1, .ref ((adq ad aq) 34)), (2, .ref ((adq ad aq) 35)), (3, .ref ((adq ad aq) 36)), (4, .int (loB lm 8)), (5, .ref ((adq ad aq) 39))]) hx hb dL_areWheels_234 hl rfl (nI_add j 1) (by decide) rfl (fun ls hl => ?_)
                  refine lv_goto (tgt := 181) hx hb dL_areWheels_237 (by decide) ?_
                  exact ih_181 (j + 1) _ _ _ (by omega) (by omega) hP hS (lv_sub hl [4, 5, 6, 7, 8, 9, 2, 1, 0] rfl)
                · refine lv_iload hx hb dL_areWheels_218 (lv_at hl 0 rfl) ?_
                  refine lv_goto (tgt := 225) hx hb dL_areWheels_220 (by decide) ?_
                  refine cx_top (show (dr (R 20) lm j * dr (R 20) lm j) = (mxS (dr (R 20) lm) (j + 1)) from by first | exact mx_a c_215 | exact mx_b c_215) ?_
                  refine lv_istore (lv' := [(6, .int (mxS (dr (R 20) lm) (j + 1))), (9, .int (dr (R 20) lm j * dr (R 20) lm j)), (0, .ref ((adq ad aq) 0)), (1, .ref ((adq ad aq) 34)), (2, .ref ((adq ad aq) 35)), (3, .ref ((adq ad aq) 36)), (4, .int (loB lm 8)), (5, .ref ((adq ad aq) 39)), (7, .int (sqS (dr (R 20) lm) j)), (8, .int (nI j))]) hx hb dL_areWheels_225 hl (by decide) rfl (fun ls hl => ?_)
                  refine lv_iload hx hb dL_areWheels_227 (lv_at hl 8 rfl) ?_
                  refine lv_iload hx hb dL_areWheels_229 (lv_at hl 1 rfl) ?_
                  refine lv_iadd hx hb dL_areWheels_231 ?_
                  refine cx_top (show ((sqS (dr (R 20) lm) j) + (dr (R 20) lm j * dr (R 20) lm j)) = (sqS (dr (R 20) lm) (j + 1)) from rfl) ?_
                  refine lv_istore (lv' := [(7, .int (sqS (dr (R 20) lm) (j + 1))), (6, .int (mxS (dr (R 20) lm) (j + 1))), (9, .int (dr (R 20) lm j * dr (R 20) lm j)), (0, .ref ((adq ad aq) 0)), (1, .ref ((adq ad aq) 34)), (2, .ref ((adq ad aq) 35)), (3, .ref ((adq ad aq) 36)), (4, .int (loB lm 8)), (5, .ref ((adq ad aq) 39)), (8, .int (nI j))]) hx hb dL_areWheels_232 hl (by decide) rfl (fun ls hl => ?_)
                  refine lv_iinc (k := 9) (v := (nI (j + 1))) (lv' := [(8, .int (nI (j + 1))), (7, .int (sqS (dr (R 20) lm) (j + 1))), (6, .int (mxS (dr (R 20) lm) (j + 1))), (9, .int (dr (R 20) lm j * dr (R 20) lm j)), (0, .ref ((adq ad aq) 0)), (1, .ref ((adq ad aq) 34)), (2, .ref ((adq ad aq) 35)), (3, .ref ((adq ad aq) 36)), (4, .int (loB lm 8)), (5, .ref ((adq ad aq) 39))]) hx hb dL_areWheels_234 hl rfl (nI_add j 1) (by decide) rfl (fun ls hl => ?_)
                  refine lv_goto (tgt := 181) hx hb dL_areWheels_237 (by decide) ?_
                  exact ih_181 (j + 1) _ _ _ (by omega) (by omega) hP hS (lv_sub hl [4, 5, 6, 7, 8, 9, 2, 1, 0] rfl)
        · have c_46 : ¬ (8 ≤ i) := fun h => c_46 ((nI_leI (a := 8) (b := i) (by omega) (by omega)).mpr h)
          refine lv_iconst (v := 0) hx hb dL_areWheels_49 (by decide) ?_
          refine lv_istore (lv' := [(7, .int 0), (0, .ref ((adq ad aq) 0)), (1, .ref ((adq ad aq) 34)), (2, .ref ((adq ad aq) 35)), (3, .ref ((adq ad aq) 36)), (4, .int (loB lm i)), (5, .ref ((adq ad aq) 39)), (6, .int (nI i))]) hx hb dL_areWheels_50 hl (by decide) rfl (fun ls hl => ?_)
          refine lv_iconst (v := 0) hx hb dL_areWheels_52 (by decide) ?_
          refine lv_istore (lv' := [(8, .int 0), (7, .int 0), (0, .ref ((adq ad aq) 0)), (1, .ref ((adq ad aq) 34)), (2, .ref ((adq ad aq) 35)), (3, .ref ((adq ad aq) 36)), (4, .int (loB lm i)), (5, .ref ((adq ad aq) 39)), (6, .int (nI i))]) hx hb dL_areWheels_53 hl (by decide) rfl (fun ls hl => ?_)
          suffices ih_55 : ∀ (fu : Nat) (j : Nat) (H : Heap) (locs : List Loc) (ls : Array Slot), 7 - j < fu → (j ≤ 7) → va_P D vwCl (qw T (adq ad aq) I (updR R 25 (fun n => trS (R 22) n 8))) H →  va_S (cA 39 ad s.heap.size) s.heap H locs → lv_has ls 10 [(0, .ref ((adq ad aq) 0)), (1, .ref ((adq ad aq) 34)), (2, .ref ((adq ad aq) 35)), (3, .ref ((adq ad aq) 36)), (4, .int (loB lm i)), (5, .ref ((adq ad aq) 39)), (6, .int (nI i)), (7, .int (chS i j)), (8, .int (nI j))] → W p l e (headSpec wsL_areWheels ({ frames := 7, cells := 1, slots := 8, locals := 150 })).room s m ([.ref (ad 0), .ref (ad 34), .ref (ad 35), .ref (ad 36)] : List Value).toArray below meth c H locs 1 8 (MQ below (va_Qi (fun r (u9 : Unit) => r = 1 ∧ True) (fun (u9 : Unit) t => va_P D vwCl (pw T ad I R) t.heap) (cA 39 ad s.heap.size)) ([.ref (ad 0), .ref (ad 34), .ref (ad 35), .ref (ad 36)] : List Value).toArray s 1 8 (cA 39 ad s.heap.size)) (F0 m 55 ls []) from
            ih_55 _ 0 _ _ _ (Nat.lt_succ_self _) (by omega) hP hS (lv_sub hl [2, 3, 4, 5, 6, 7, 8, 1, 0] rfl)
          intro fu
          induction fu with
          | zero => intro j H locs ls hfu; exact absurd hfu (Nat.not_lt_zero _)
          | succ fu ih_55 =>
            intro j H locs ls hfu hj9 hP hS hl
            refine lv_iload hx hb dL_areWheels_55 (lv_at hl 8 rfl) ?_
            refine lv_bipush (v := 7) hx hb dL_areWheels_57 (by decide) ?_
            refine lv_icmp_ge (tgt := 97) hx hb dL_areWheels_59 (by decide) (fun c_59 => ?_) (fun c_59 => ?_)
            · have c_59 : 7 ≤ j := (nI_leI (a := 7) (b := j) (by omega) (by omega)).mp c_59
              obtain rfl : j = 7 := by omega
              refine lv_iload hx hb dL_areWheels_97 (lv_at hl 4 rfl) ?_
              refine lv_aload_n hx hb dL_areWheels_99 rfl (lv_at hl 2 rfl) ?_
              refine lv_iload hx hb dL_areWheels_100 (lv_at hl 6 rfl) ?_
              refine cx_iald (k := i) hx hb hK hP 35 1 qw_35 rfl (by omega) (by decide) dL_areWheels_102 ?_
              refine cx_top (y := ((R 21) i)) rfl ?_
              refine lv_iadd hx hb dL_areWheels_103 ?_
              refine cx_top (show ((loB lm i) + ((R 21) i)) = (loB lm (i + 1)) from by show loB lm i + R 21 i = loB lm i + lbI lm i; rw [hb1]) ?_
              refine lv_istore (lv' := [(4, .int (loB lm (i + 1))), (0, .ref ((adq ad aq) 0)), (1, .ref ((adq ad aq) 34)), (2, .ref ((adq ad aq) 35)), (3, .ref ((adq ad aq) 36)), (5, .ref ((adq ad aq) 39)), (6, .int (nI i)), (7, .int (chS i 7)), (8, .int (nI 7))]) hx hb dL_areWheels_104 hl (by decide) rfl (fun ls hl => ?_)
              refine lv_aload_n hx hb dL_areWheels_106 rfl (lv_at hl 1 rfl) ?_
              refine lv_iload hx hb dL_areWheels_107 (lv_at hl 6 rfl) ?_
              refine lv_iconst (v := 0) hx hb dL_areWheels_109 (by decide) ?_
              refine cx_ri (va_runV (As := [.int (nI i), .int 0]) (rest := []) ⟨hx, hb, hml, hown, hts⟩ (c_X3_wheelOf l D T (adq ad aq) I (updR R 25 (fun n => trS (R 22) n 8)) lm i 0 (hm) (hI) (by omega) (by decide)) (cwV 2 hts gL_areWheels_X3_wheelOf rfl rfl rfl (by decide +kernel) ⟨Nat.le_of_ble_eq_true rfl, Nat.le_of_ble_eq_true rfl⟩) ⟨CR.blind, va_recv hK hP (ci := 3) (q0 := 0) rfl qw_0, CR.pre (qw_c hP) hK hN rfl⟩ rfl rfl hl.1 rfl (lv_room (Nat.le_of_ble_eq_true rfl)) dL_areWheels_110 ⟨Nat.le_of_ble_eq_true rfl, Nat.le_of_ble_eq_true rfl⟩) hS hP (fun H locs hP hS => ?_)
              refine cx_top (y := (wnF ((R 0)) ((R 1)) lm i 0)) rfl ?_
              refine lv_aload_n hx hb dL_areWheels_113 rfl (lv_at hl 2 rfl) ?_
              refine lv_iload hx hb dL_areWheels_114 (lv_at hl 6 rfl) ?_
              refine cx_iald (k := i) hx hb hK hP 34 1 qw_34 rfl (by omega) (by decide) dL_areWheels_116 ?_
              refine cx_top (y := ((R 20) i)) rfl ?_
              refine lv_icmp_ne (tgt := 164) hx hb dL_areWheels_117 (by decide) (fun c_117 => ?_) (fun c_117 => ?_)
              · exact absurd (wq0.trans (congrFun h0 i)) c_117
              · refine lv_aload_n hx hb dL_areWheels_120 rfl (lv_at hl 1 rfl) ?_
                refine lv_iload hx hb dL_areWheels_121 (lv_at hl 6 rfl) ?_
                refine lv_iconst (v := 1) hx hb dL_areWheels_123 (by decide) ?_
                refine cx_ri (va_runV (As := [.int (nI i), .int 1]) (rest := []) ⟨hx, hb, hml, hown, hts⟩ (c_X3_wheelOf l D T (adq ad aq) I (updR R 25 (fun n => trS (R 22) n 8)) lm i 1 (hm) (hI) (by omega) (by decide)) (cwV 2 hts gL_areWheels_X3_wheelOf rfl rfl rfl (by decide +kernel) ⟨Nat.le_of_ble_eq_true rfl, Nat.le_of_ble_eq_true rfl⟩) ⟨CR.blind, va_recv hK hP (ci := 3) (q0 := 0) rfl qw_0, CR.pre (qw_c hP) hK hN rfl⟩ rfl rfl hl.1 rfl (lv_room (Nat.le_of_ble_eq_true rfl)) dL_areWheels_124 ⟨Nat.le_of_ble_eq_true rfl, Nat.le_of_ble_eq_true rfl⟩) hS hP (fun H locs hP hS => ?_)
                refine cx_top (y := (wnF ((R 0)) ((R 1)) lm i 1)) rfl ?_
                refine lv_aload_n hx hb dL_areWheels_127 rfl (lv_at hl 3 rfl) ?_
                refine lv_iload hx hb dL_areWheels_128 (lv_at hl 6 rfl) ?_
                refine cx_iald (k := i) hx hb hK hP 35 1 qw_35 rfl (by omega) (by decide) dL_areWheels_130 ?_
                refine cx_top (y := ((R 21) i)) rfl ?_
                refine lv_icmp_ne (tgt := 164) hx hb dL_areWheels_131 (by decide) (fun c_131 => ?_) (fun c_131 => ?_)
                · exact absurd (wq1.trans (congrFun hb1 i).symm) c_131
                · refine lv_aload_n hx hb dL_areWheels_134 rfl (lv_at hl 1 rfl) ?_
                  refine lv_iload hx hb dL_areWheels_135 (lv_at hl 6 rfl) ?_
                  refine lv_iconst (v := 2) hx hb dL_areWheels_137 (by decide) ?_
                  refine cx_ri (va_runV (As := [.int (nI i), .int 2]) (rest := []) ⟨hx, hb, hml, hown, hts⟩ (c_X3_wheelOf l D T (adq ad aq) I (updR R 25 (fun n => trS (R 22) n 8)) lm i 2 (hm) (hI) (by omega) (by decide)) (cwV 2 hts gL_areWheels_X3_wheelOf rfl rfl rfl (by decide +kernel) ⟨Nat.le_of_ble_eq_true rfl, Nat.le_of_ble_eq_true rfl⟩) ⟨CR.blind, va_recv hK hP (ci := 3) (q0 := 0) rfl qw_0, CR.pre (qw_c hP) hK hN rfl⟩ rfl rfl hl.1 rfl (lv_room (Nat.le_of_ble_eq_true rfl)) dL_areWheels_138 ⟨Nat.le_of_ble_eq_true rfl, Nat.le_of_ble_eq_true rfl⟩) hS hP (fun H locs hP hS => ?_)
                  refine cx_top (y := (wnF ((R 0)) ((R 1)) lm i 2)) rfl ?_
                  refine lv_aload hx hb dL_areWheels_141 (lv_at hl 5 rfl) ?_
                  refine lv_iload hx hb dL_areWheels_143 (lv_at hl 6 rfl) ?_
                  refine cx_iald (k := i) hx hb hK hP 39 1 qw_39 rfl (by omega) (by decide) dL_areWheels_145 ?_
                  refine cx_top (y := ((fun n => trS (R 22) n 8) i)) rfl ?_
                  refine cx_top (show ((fun n => trS (R 22) n 8) i) = (trS (R 22) i 8) from rfl) ?_
                  refine cx_ri (va_runS (As := [.int (trS (R 22) i 8)]) (rest := [.int (wnF ((R 0)) ((R 1)) lm i 2)]) ⟨hx, hb, hml, hown, hts⟩ (c_L_eighth l  (trS (R 22) i 8) ((tr_90 hbp i).1) ((tr_90 hbp i).2)) (va_cwS 1 hts gL_areWheels_L_eighth rfl rfl rfl (by decide +kernel) ⟨Nat.le_of_ble_eq_true rfl, Nat.le_of_ble_eq_true rfl⟩) ⟨pc_blind, (fun U hU hW => ⟨rfl, trivial⟩)⟩ rfl rfl hl.1 rfl (lv_room (Nat.le_of_ble_eq_true rfl)) dL_areWheels_146 ⟨Nat.le_of_ble_eq_true rfl, Nat.le_of_ble_eq_true rfl⟩) hS hP (fun H locs hP hS => ?_)
                  refine lv_icmp_ne (tgt := 164) hx hb dL_areWheels_149 (by decide) (fun c_149 => ?_) (fun c_149 => ?_)
                  · exact absurd (wq2.trans (by rw [ps_tr, h1])) c_149
                  · refine lv_aload_n hx hb dL_areWheels_152 rfl (lv_at hl 1 rfl) ?_
                    refine lv_iload hx hb dL_areWheels_153 (lv_at hl 6 rfl) ?_
                    refine lv_iconst (v := 3) hx hb dL_areWheels_155 (by decide) ?_
                    refine cx_ri (va_runV (As := [.int (nI i), .int 3]) (rest := []) ⟨hx, hb, hml, hown, hts⟩ (c_X3_wheelOf l D T (adq ad aq) I (updR R 25 (fun n => trS (R 22) n 8)) lm i 3 (hm) (hI) (by omega) (by decide)) (cwV 2 hts gL_areWheels_X3_wheelOf rfl rfl rfl (by decide +kernel) ⟨Nat.le_of_ble_eq_true rfl, Nat.le_of_ble_eq_true rfl⟩) ⟨CR.blind, va_recv hK hP (ci := 3) (q0 := 0) rfl qw_0, CR.pre (qw_c hP) hK hN rfl⟩ rfl rfl hl.1 rfl (lv_room (Nat.le_of_ble_eq_true rfl)) dL_areWheels_156 ⟨Nat.le_of_ble_eq_true rfl, Nat.le_of_ble_eq_true rfl⟩) hS hP (fun H locs hP hS => ?_)
                    refine cx_top (y := (wnF ((R 0)) ((R 1)) lm i 3)) rfl ?_
                    refine lv_iload hx hb dL_areWheels_159 (lv_at hl 7 rfl) ?_
                    refine lv_icmp_eq (tgt := 166) hx hb dL_areWheels_161 (by decide) (fun c_161 => ?_) (fun c_161 => ?_)
                    · refine lv_iinc (k := 6) (v := (nI (i + 1))) (lv' := [(6, .int (nI (i + 1))), (4, .int (loB lm (i + 1))), (0, .ref ((adq ad aq) 0)), (1, .ref ((adq ad aq) 34)), (2, .ref ((adq ad aq) 35)), (3, .ref ((adq ad aq) 36)), (5, .ref ((adq ad aq) 39)), (7, .int (chS i 7)), (8, .int (nI 7))]) hx hb dL_areWheels_166 hl rfl (nI_add i 1) (by decide) rfl (fun ls hl => ?_)
                      refine lv_goto (tgt := 42) hx hb dL_areWheels_169 (by decide) ?_
                      exact ih_42 (i + 1) _ _ _ (by omega) (by omega) hP hS (lv_sub hl [2, 3, 4, 5, 1, 6, 0] rfl)
                    · exact absurd wq3 c_161
            · have c_59 : ¬ (7 ≤ j) := fun h => c_59 ((nI_leI (a := 7) (b := j) (by omega) (by omega)).mpr h)
              refine lv_iload hx hb dL_areWheels_62 (lv_at hl 7 rfl) ?_
              refine lv_iload hx hb dL_areWheels_64 (lv_at hl 6 rfl) ?_
              refine lv_iload hx hb dL_areWheels_66 (lv_at hl 8 rfl) ?_
              refine cx_ri (va_runS (As := [.int (nI i), .int (nI j)]) (rest := [.int (chS i j)]) ⟨hx, hb, hml, hown, hts⟩ (c_L_wave l  i j (by omega) (by omega)) (va_cwS 2 hts gL_areWheels_L_wave rfl rfl rfl (by decide +kernel) ⟨Nat.le_of_ble_eq_true rfl, Nat.le_of_ble_eq_true rfl⟩) ⟨pc_blind, (fun U hU hW => ⟨rfl, trivial⟩)⟩ rfl rfl hl.1 rfl (lv_room (Nat.le_of_ble_eq_true rfl)) dL_areWheels_68 ⟨Nat.le_of_ble_eq_true rfl, Nat.le_of_ble_eq_true rfl⟩) hS hP (fun H locs hP hS => ?_)
              refine lv_iload hx hb dL_areWheels_71 (lv_at hl 6 rfl) ?_
              refine lv_iload hx hb dL_areWheels_73 (lv_at hl 8 rfl) ?_
              refine lv_iconst (v := 1) hx hb dL_areWheels_75 (by decide) ?_
              refine lv_iadd hx hb dL_areWheels_76 ?_
              refine cx_top (nI_add j 1) ?_
              refine cx_ri (va_runS (As := [.int (nI i), .int (nI (j + 1))]) (rest := [.int (wv i j), .int (chS i j)]) ⟨hx, hb, hml, hown, hts⟩ (c_L_wave l  i (j + 1) (by omega) (by omega)) (va_cwS 2 hts gL_areWheels_L_wave rfl rfl rfl (by decide +kernel) ⟨Nat.le_of_ble_eq_true rfl, Nat.le_of_ble_eq_true rfl⟩) ⟨pc_blind, (fun U hU hW => ⟨rfl, trivial⟩)⟩ rfl rfl hl.1 rfl (lv_room (Nat.le_of_ble_eq_true rfl)) dL_areWheels_77 ⟨Nat.le_of_ble_eq_true rfl, Nat.le_of_ble_eq_true rfl⟩) hS hP (fun H locs hP hS => ?_)
              refine lv_icmp_eq (tgt := 87) hx hb dL_areWheels_80 (by decide) (fun c_80 => ?_) (fun c_80 => ?_)
              · refine lv_iconst (v := 0) hx hb dL_areWheels_87 (by decide) ?_
                refine lv_iadd hx hb dL_areWheels_88 ?_
                refine cx_top (show ((chS i j) + 0) = (chS i (j + 1)) from by first | exact ch_t c_80 | exact ch_f c_80) ?_
                refine lv_istore (lv' := [(7, .int (chS i (j + 1))), (0, .ref ((adq ad aq) 0)), (1, .ref ((adq ad aq) 34)), (2, .ref ((adq ad aq) 35)), (3, .ref ((adq ad aq) 36)), (4, .int (loB lm i)), (5, .ref ((adq ad aq) 39)), (6, .int (nI i)), (8, .int (nI j))]) hx hb dL_areWheels_89 hl (by decide) rfl (fun ls hl => ?_)
                refine lv_iinc (k := 8) (v := (nI (j + 1))) (lv' := [(8, .int (nI (j + 1))), (7, .int (chS i (j + 1))), (0, .ref ((adq ad aq) 0)), (1, .ref ((adq ad aq) 34)), (2, .ref ((adq ad aq) 35)), (3, .ref ((adq ad aq) 36)), (4, .int (loB lm i)), (5, .ref ((adq ad aq) 39)), (6, .int (nI i))]) hx hb dL_areWheels_91 hl rfl (nI_add j 1) (by decide) rfl (fun ls hl => ?_)
                refine lv_goto (tgt := 55) hx hb dL_areWheels_94 (by decide) ?_
                exact ih_55 (j + 1) _ _ _ (by omega) (by omega) hP hS (lv_sub hl [2, 3, 4, 5, 6, 7, 8, 1, 0] rfl)
              · refine lv_iconst (v := 1) hx hb dL_areWheels_83 (by decide) ?_
                refine lv_goto (tgt := 88) hx hb dL_areWheels_84 (by decide) ?_
                refine lv_iadd hx hb dL_areWheels_88 ?_
                refine cx_top (show ((chS i j) + 1) = (chS i (j + 1)) from by first | exact ch_t c_80 | exact ch_f c_80) ?_
                refine lv_istore (lv' := [(7, .int (chS i (j + 1))), (0, .ref ((adq ad aq) 0)), (1, .ref ((adq ad aq) 34)), (2, .ref ((adq ad aq) 35)), (3, .ref ((adq ad aq) 36)), (4, .int (loB lm i)), (5, .ref ((adq ad aq) 39)), (6, .int (nI i)), (8, .int (nI j))]) hx hb dL_areWheels_89 hl (by decide) rfl (fun ls hl => ?_)
                refine lv_iinc (k := 8) (v := (nI (j + 1))) (lv' := [(8, .int (nI (j + 1))), (7, .int (chS i (j + 1))), (0, .ref ((adq ad aq) 0)), (1, .ref ((adq ad aq) 34)), (2, .ref ((adq ad aq) 35)), (3, .ref ((adq ad aq) 36)), (4, .int (loB lm i)), (5, .ref ((adq ad aq) 39)), (6, .int (nI i))]) hx hb dL_areWheels_91 hl rfl (nI_add j 1) (by decide) rfl (fun ls hl => ?_)
                refine lv_goto (tgt := 55) hx hb dL_areWheels_94 (by decide) ?_
                exact ih_55 (j + 1) _ _ _ (by omega) (by omega) hP hS (lv_sub hl [2, 3, 4, 5, 6, 7, 8, 1, 0] rfl)
    · have c_16 : ¬ (8 ≤ i) := fun h => c_16 ((nI_leI (a := 8) (b := i) (by omega) (by omega)).mpr h)
      refine lv_aload hx hb dL_areWheels_19 (lv_at hl 5 rfl) ?_
      refine lv_iload hx hb dL_areWheels_21 (lv_at hl 6 rfl) ?_
      refine lv_aload_n hx hb dL_areWheels_23 rfl (lv_at hl 3 rfl) ?_
      refine lv_iload hx hb dL_areWheels_24 (lv_at hl 6 rfl) ?_
      refine cx_iald (k := i) hx hb hK hP 36 1 qw_36 rfl (by omega) (by decide) dL_areWheels_26 ?_
      refine cx_top (y := ((R 22) i)) rfl ?_
      refine cx_iast (k := i) hx hb hK hP (hD _ _) hS 39 1 qw_39 rfl (by omega) (by decide) qw_R25 dL_areWheels_27 (fun H locs hP hS => ?_)
      refine lv_iinc (k := 6) (v := (nI (i + 1))) (lv' := [(6, .int (nI (i + 1))), (0, .ref ((adq ad aq) 0)), (1, .ref ((adq ad aq) 34)), (2, .ref ((adq ad aq) 35)), (3, .ref ((adq ad aq) 36)), (4, .int 0), (5, .ref ((adq ad aq) 39))]) hx hb dL_areWheels_28 hl rfl (nI_add i 1) (by decide) rfl (fun ls hl => ?_)
      refine lv_goto (tgt := 12) hx hb dL_areWheels_31 (by decide) ?_
      exact ih_12 (i + 1) (upd f i ((R 22) i)) _ _ _ (by omega) (by omega) (up_lt hf rfl) (updQ hP) hS (lv_sub hl [1, 2, 3, 4, 5, 6, 0] rfl)

set_option maxHeartbeats 1500000 in
set_option maxRecDepth 100000 in
theorem c_L_act (l : Launch) (D : va_G) (T : Nat → ClassId) (ad : Nat → Nat) (I : Nat → Int32) (R : Nat → Nat → Int32) (sz : Nat) (lm : Nat) (nx : Nat) (ct : Nat) (x : Int32) (y : Int32) (hAD : AD 39 ad) (hm : lm < 256) (hI : I 4 = nI lm) (h0 : R 0 = R 20) (h1 : R 1 = R 22) (hb1 : R 21 = lbI lm) (hbd : BdA (R 20)) (hbp : BdP (R 22)) (ht : R 23 = fun n => trS (dr (R 20) lm) n 8) (hnx : nx < 6) (hct : ct ≤ 6) (hI1 : I 1 = nI nx) (hI2 : I 2 = nI ct) (h5 : I 5 = R 24 0) (hlt : l.stackTraces = false) : Met l yL_act wsL_act ({ frames := 8, cells := 3, slots := 18, locals := 129 }) (va_Pc [.ref (ad 0), .int x, .int y, .ref (ad 34), .ref (ad 35), .ref (ad 36), .ref (ad 37), .ref (ad 38)] (PB D T ad I R sz)) (va_Qi (fun r (u : (Nat → Int32) × (Nat → Nat → Int32) × Nat × Nat × Nat) => r = 1 ∧ JL u.2.2.1 u.2.2.2.1 u.2.2.2.2 u.1 u.2.1) (fun (u : (Nat → Int32) × (Nat → Nat → Int32) × Nat × Nat × Nat) t => va_P D vwCl (pw T ad u.1 u.2.1) t.heap) (cA 39 ad sz)) 3 18 (cA 39 ad sz) := by
  refine Met.ofW (cc := cL_act) (maxL := 14) (ret := (some .boolean)) (by decide) rfl ?_
  intro p e s m args_ below meth c s₁ B hml hv
  obtain ⟨rfl, hsz, hP, hK, hN, hXU, hXZ, hNc⟩ := hv
  have hx := B.exec
  have hb := B.bytes
  have hr := B.returns
  have hts := atoms_spec (ws := wsL_act) B.pre
  have hown : s.vm.findClass RL = some m.cls := findClass_of_methodNamed B.named
  have hlocks := B.notSynchronized
  subst hsz
  have hS : va_S (cA 39 ad s.heap.size) s.heap s.heap [] := va_S.rf
  have hD : ∀ I R, va_D (cA 39 ad s.heap.size) (pw T ad I R) := fun I R => pw_D hAD (fun k hk => cA_in hk)
  have hl := lv_entry ([.ref (ad 0), .int x, .int y, .ref (ad 34), .ref (ad 35), .ref (ad 36), .ref (ad 37), .ref (ad 38)]) (n := 14) (Nat.le_of_ble_eq_true rfl)
  rw [lg_entry_eq]
  generalize (lg_sl ([.ref (ad 0), .int x, .int y, .ref (ad 34), .ref (ad 35), .ref (ad 36), .ref (ad 37), .ref (ad 38)]) ++ List.replicate (14 - (lg_sl ([.ref (ad 0), .int x, .int y, .ref (ad 34), .ref (ad 35), .ref (ad 36), .ref (ad 37), .ref (ad 38)])).length) Slot.unset).toArray = ls at hl ⊢
  have hl : lv_has ls 14 [(0, .ref (ad 0)), (1, .int x), (2, .int y), (3, .ref (ad 34)), (4, .ref (ad 35)), (5, .ref (ad 36)), (6, .ref (ad 37)), (7, .ref (ad 38))] := hl
  refine lv_iload_n hx hb dL_act_0 rfl (lv_at hl 1 rfl) ?_
  refine lv_bipush (v := 16) hx hb dL_act_1 (by decide) ?_
  refine cx_ri (va_runS (As := [.int x, .int 16]) (rest := []) ⟨hx, hb, hml, hown, hts⟩ (c_L_low l  x 16 (by decide) (by decide)) (va_cwS 2 hts gL_act_L_low rfl rfl rfl (by decide +kernel) ⟨Nat.le_of_ble_eq_true rfl, Nat.le_of_ble_eq_true rfl⟩) ⟨pc_blind, (fun U hU hW => ⟨rfl, trivial⟩)⟩ rfl rfl hl.1 rfl (lv_room (Nat.le_of_ble_eq_true rfl)) dL_act_3 ⟨Nat.le_of_ble_eq_true rfl, Nat.le_of_ble_eq_true rfl⟩) hS hP (fun H locs hP hS => ?_)
  obtain ⟨hw, ehw, hw16⟩ : ∃ j, loN x % 16 = j ∧ j < 16 := ⟨_, rfl, Nat.mod_lt _ (by decide)⟩
  refine cx_top (show (nI (loN x % 16)) = (nI hw) from congrArg nI ehw) ?_
  refine lv_istore (lv' := [(8, .int (nI hw)), (0, .ref (ad 0)), (1, .int x), (2, .int y), (3, .ref (ad 34)), (4, .ref (ad 35)), (5, .ref (ad 36)), (6, .ref (ad 37)), (7, .ref (ad 38))]) hx hb dL_act_6 hl (by decide) rfl (fun ls hl => ?_)
  refine lv_iload_n hx hb dL_act_8 rfl (lv_at hl 3 rfl) ?_
  refine lv_bipush (v := 8) hx hb dL_act_9 (by decide) ?_
  refine cx_ri (va_runS (As := [.int y, .int 8]) (rest := []) ⟨hx, hb, hml, hown, hts⟩ (c_L_low l  y 8 (by decide) (by decide)) (va_cwS 2 hts gL_act_L_low rfl rfl rfl (by decide +kernel) ⟨Nat.le_of_ble_eq_true rfl, Nat.le_of_ble_eq_true rfl⟩) ⟨pc_blind, (fun U hU hW => ⟨rfl, trivial⟩)⟩ rfl rfl hl.1 rfl (lv_room (Nat.le_of_ble_eq_true rfl)) dL_act_11 ⟨Nat.le_of_ble_eq_true rfl, Nat.le_of_ble_eq_true rfl⟩) hS hP (fun H locs hP hS => ?_)
  obtain ⟨k, ek, hk⟩ : ∃ j, loN y % 8 = j ∧ j < 8 := ⟨_, rfl, Nat.mod_lt _ (by decide)⟩
  refine cx_top (show (nI (loN y % 8)) = (nI k) from congrArg nI ek) ?_
  refine lv_istore (lv' := [(9, .int (nI k)), (8, .int (nI hw)), (0, .ref (ad 0)), (1, .int x), (2, .int y), (3, .ref (ad 34)), (4, .ref (ad 35)), (5, .ref (ad 36)), (6, .ref (ad 37)), (7, .ref (ad 38))]) hx hb dL_act_14 hl (by decide) rfl (fun ls hl => ?_)
  refine lv_iload hx hb dL_act_16 (lv_at hl 1 rfl) ?_
  refine lv_iconst (v := 5) hx hb dL_act_18 (by decide) ?_
  refine lv_icmp_ge (tgt := 132) hx hb dL_act_19 (by decide) (fun c_19 => ?_) (fun c_19 => ?_)
  · have c_19 : 5 ≤ hw := (nI_leI (a := 5) (b := hw) (by omega) (by omega)).mp c_19
    refine lv_iload hx hb dL_act_132 (lv_at hl 1 rfl) ?_
    refine lv_bipush (v := 7) hx hb dL_act_134 (by decide) ?_
    refine lv_icmp_ge (tgt := 181) hx hb dL_act_136 (by decide) (fun c_136 => ?_) (fun c_136 => ?_)
    · have c_136 : 7 ≤ hw := (nI_leI (a := 7) (b := hw) (by omega) (by omega)).mp c_136
      refine lv_iload hx hb dL_act_181 (lv_at hl 1 rfl) ?_
      refine lv_bipush (v := 7) hx hb dL_act_183 (by decide) ?_
      refine lv_icmp_ne (tgt := 276) hx hb dL_act_185 (by decide) (fun c_185 => ?_) (fun c_185 => ?_)
      · have c_185 : ¬ (hw = 7) := fun h => c_185 ((nI_eq (a := hw) (b := 7) (by omega) (by omega)).mpr h)
        refine lv_iload hx hb dL_act_276 (lv_at hl 1 rfl) ?_
        refine lv_bipush (v := 8) hx hb dL_act_278 (by decide) ?_
        refine lv_icmp_ne (tgt := 398) hx hb dL_act_280 (by decide) (fun c_280 => ?_) (fun c_280 => ?_)
        · have c_280 : ¬ (hw = 8) := fun h => c_280 ((nI_eq (a := hw) (b := 8) (by omega) (by omega)).mpr h)
          refine lv_iload hx hb dL_act_398 (lv_at hl 1 rfl) ?_
          refine lv_bipush (v := 12) hx hb dL_act_400 (by decide) ?_
          refine lv_icmp_ge (tgt := 518) hx hb dL_act_402 (by decide) (fun c_402 => ?_) (fun c_402 => ?_)
          · have c_402 : 12 ≤ hw := (nI_leI (a := 12) (b := hw) (by omega) (by omega)).mp c_402
            refine lv_iload hx hb dL_act_518 (lv_at hl 1 rfl) ?_
            refine lv_bipush (v := 14) hx hb dL_act_520 (by decide) ?_
            refine lv_icmp_ge (tgt := 592) hx hb dL_act_522 (by decide) (fun c_522 => ?_) (fun c_522 => ?_)
            · have c_522 : 14 ≤ hw := (nI_leI (a := 14) (b := hw) (by omega) (by omega)).mp c_522
              refine lv_bipush (v := 8) hx hb dL_act_592 (by decide) ?_
              refine cx_newi hx hb (hts (.arrayClass .int) (by decide +kernel)) hK hP (hD _ _) hS (fun q h => cA_new h) 8 (by decide) rfl (by decide) (Nat.le_of_ble_eq_true rfl) (Nat.le_of_ble_eq_true rfl) dL_act_594 (fun aq H hP hD9 hS => ?_)
              have hP := qw_new hP
              have hQ := qw_AD (qw_newD hD9)
              clear hD9 hD
              have hD : ∀ I R, va_D (cA 39 ad s.heap.size) (qw T (adq ad aq) I R) := fun I R => qw_D hQ.1 hQ.2
              have hl : lv_has ls 14 [(9, .int (nI k)), (8, .int (nI hw)), (0, .ref ((adq ad aq) 0)), (1, .int x), (2, .int y), (3, .ref ((adq ad aq) 34)), (4, .ref ((adq ad aq) 35)), (5, .ref ((adq ad aq) 36)), (6, .ref ((adq ad aq) 37)), (7, .ref ((adq ad aq) 38))] := hl
              refine W.widen (k := 1) (n := 8) (by decide) (by decide) ?_
              refine lv_astore (lv' := [(10, .ref ((adq ad aq) 39)), (9, .int (nI k)), (8, .int (nI hw)), (0, .ref ((adq ad aq) 0)), (1, .int x), (2, .int y), (3, .ref ((adq ad aq) 34)), (4, .ref ((adq ad aq) 35)), (5, .ref ((adq ad aq) 36)), (6, .ref ((adq ad aq) 37)), (7, .ref ((adq ad aq) 38))]) hx hb dL_act_596 hl (by decide) rfl (fun ls hl => ?_)
              refine lv_iconst (v := 0) hx hb dL_act_598 (by decide) ?_
              refine lv_istore (lv' := [(11, .int 0), (10, .ref ((adq ad aq) 39)), (9, .int (nI k)), (8, .int (nI hw)), (0, .ref ((adq ad aq) 0)), (1, .int x), (2, .int y), (3, .ref ((adq ad aq) 34)), (4, .ref ((adq ad aq) 35)), (5, .ref ((adq ad aq) 36)), (6, .ref ((adq ad aq) 37)), (7, .ref ((adq ad aq) 38))]) hx hb dL_act_599 hl (by decide) rfl (fun ls hl => ?_)
              suffices ih_601 : ∀ (fu : Nat) (i : Nat) (f : Nat → Int32) (H : Heap) (locs : List Loc) (ls : Array Slot), 8 - i < fu → (i ≤ 8) → (∀ k, k < i → f k = R 22 k) → va_P D vwCl (qw T (adq ad aq) I (updR R 25 f)) H →  va_S (cA 39 ad s.heap.size) s.heap H locs → lv_has ls 14 [(0, .ref ((adq ad aq) 0)), (3, .ref ((adq ad aq) 34)), (4, .ref ((adq ad aq) 35)), (5, .ref ((adq ad aq) 36)), (7, .ref ((adq ad aq) 38)), (10, .ref ((adq ad aq) 39)), (11, .int (nI i))] → W p l e (headSpec wsL_act ({ frames := 8, cells := 3, slots := 18, locals := 129 })).room s m ([.ref (ad 0), .int x, .int y, .ref (ad 34), .ref (ad 35), .ref (ad 36), .ref (ad 37), .ref (ad 38)] : List Value).toArray below meth c H locs 1 8 (MQ below (va_Qi (fun r (u : (Nat → Int32) × (Nat → Nat → Int32) × Nat × Nat × Nat) => r = 1 ∧ JL u.2.2.1 u.2.2.2.1 u.2.2.2.2 u.1 u.2.1) (fun (u : (Nat → Int32) × (Nat → Nat → Int32) × Nat × Nat × Nat) t => va_P D vwCl (pw T ad u.1 u.2.1) t.heap) (cA 39 ad s.heap.size)) ([.ref (ad 0), .int x, .int y, .ref (ad 34), .ref (ad 35), .ref (ad 36), .ref (ad 37), .ref (ad 38)] : List Value).toArray s 3 18 (cA 39 ad s.heap.size)) (F0 m 601 ls []) from
                ih_601 _ 0 (fun _ => 0) _ _ _ (Nat.lt_succ_self _) (by omega) (fun k h => absurd h (Nat.not_lt_zero k)) hP hS (lv_sub hl [4, 7, 8, 9, 11, 1, 0] rfl)
              intro fu
              induction fu with
              | zero => intro i f H locs ls hfu; exact absurd hfu (Nat.not_lt_zero _)
              | succ fu ih_601 =>
                intro i f H locs ls hfu hi hf hP hS hl
                refine lv_iload hx hb dL_act_601 (lv_at hl 6 rfl) ?_
                refine lv_bipush (v := 8) hx hb dL_act_603 (by decide) ?_
                refine lv_icmp_ge (tgt := 624) hx hb dL_act_605 (by decide) (fun c_605 => ?_) (fun c_605 => ?_)
                · have c_605 : 8 ≤ i := (nI_leI (a := 8) (b := i) (by omega) (by omega)).mp c_605
                  obtain rfl : i = 8 := by omega
                  refine lv_aload hx hb dL_act_624 (lv_at hl 5 rfl) ?_
                  refine cx_wv (va_runS (As := [.ref ((adq ad aq) 39)]) (rest := []) ⟨hx, hb, hml, hown, hts⟩ (c_L_halves l D T (fun _ => (adq ad aq) 39) (fun _ => 0) (fun _ => f) _ AD_1) (va_cwS 1 hts gL_act_L_halves rfl rfl rfl (by decide +kernel) ⟨Nat.le_of_ble_eq_true rfl, Nat.le_of_ble_eq_true rfl⟩) ⟨YB.blind, YB.pre (hw_of (I := fun _ => 0) hP qw_39) hK rfl⟩ rfl rfl hl.1 rfl (lv_room (Nat.le_of_ble_eq_true rfl)) dL_act_626 ⟨Nat.le_of_ble_eq_true rfl, Nat.le_of_ble_eq_true rfl⟩) hS (cA_sub (fun _ _ => hQ.2 39 (by decide)) (fun q hq => cA_new (Nat.le_trans hS.1 hq))) (cA_sub (fun _ _ => hQ.2 39 (by decide)) (fun q hq => cA_new (Nat.le_trans hS.1 hq))) (fun u_626 H locs hu_626 hP1 hkk hS => ?_)
                  have hP := hw_join (g := (fun n => trS (R 22) n 8)) hP (hD _ _) qw_39 hkk hP1 (fun j hj => (hu_626 j hj).trans (trS_congr hf)) qw_R25
                  have hP := updQ hP
                  refine lv_iconst (v := 0) hx hb dL_act_629 (by decide) ?_
                  refine lv_istore (lv' := [(11, .int 0), (0, .ref ((adq ad aq) 0)), (3, .ref ((adq ad aq) 34)), (4, .ref ((adq ad aq) 35)), (5, .ref ((adq ad aq) 36)), (7, .ref ((adq ad aq) 38)), (10, .ref ((adq ad aq) 39))]) hx hb dL_act_630 hl (by decide) rfl (fun ls hl => ?_)
                  refine lv_iconst (v := 0) hx hb dL_act_632 (by decide) ?_
                  refine lv_istore (lv' := [(12, .int 0), (11, .int 0), (0, .ref ((adq ad aq) 0)), (3, .ref ((adq ad aq) 34)), (4, .ref ((adq ad aq) 35)), (5, .ref ((adq ad aq) 36)), (7, .ref ((adq ad aq) 38)), (10, .ref ((adq ad aq) 39))]) hx hb dL_act_633 hl (by decide) rfl (fun ls hl => ?_)
                  suffices ih_635 : ∀ (fu : Nat) (i : Nat) (fa : Nat → Int32) (fb : Nat → Int32) (sn : Int32) (H : Heap) (locs : List Loc) (ls : Array Slot), 8 - i < fu → (i ≤ 8) → (∀ j, j < i → fa j = fiF (R 22) j) → (∀ j, i ≤ j → fa j = R 20 j) → (∀ j, j < i → fb j = lbI 0 j) → (sn = cgS (R 20) (fiF (R 22)) i) → va_P D vwCl (qw T (adq ad aq) I (updR (updR (updR R 25 (fun n => trS (R 22) n 8)) 20 fa) 21 fb)) H →  va_S (cA 39 ad s.heap.size) s.heap H locs → lv_has ls 14 [(0, .ref ((adq ad aq) 0)), (3, .ref ((adq ad aq) 34)), (4, .ref ((adq ad aq) 35)), (7, .ref ((adq ad aq) 38)), (10, .ref ((adq ad aq) 39)), (11, .int sn), (12, .int (nI i))] → W p l e (headSpec wsL_act ({ frames := 8, cells := 3, slots := 18, locals := 129 })).room s m ([.ref (ad 0), .int x, .int y, .ref (ad 34), .ref (ad 35), .ref (ad 36), .ref (ad 37), .ref (ad 38)] : List Value).toArray below meth c H locs 1 8 (MQ below (va_Qi (fun r (u : (Nat → Int32) × (Nat → Nat → Int32) × Nat × Nat × Nat) => r = 1 ∧ JL u.2.2.1 u.2.2.2.1 u.2.2.2.2 u.1 u.2.1) (fun (u : (Nat → Int32) × (Nat → Nat → Int32) × Nat × Nat × Nat) t => va_P D vwCl (pw T ad u.1 u.2.1) t.heap) (cA 39 ad s.heap.size)) ([.ref (ad 0), .int x, .int y, .ref (ad 34), .ref (ad 35), .ref (ad 36), .ref (ad 37), .ref (ad 38)] : List Value).toArray s 3 18 (cA 39 ad s.heap.size)) (F0 m 635 ls []) from
                    ih_635 _ 0 (R 20) (R 21) 0 _ _ _ (Nat.lt_succ_self _) (by omega) (fun j h => absurd h (Nat.not_lt_zero j)) (fun j _ => rfl) (fun j h => absurd h (Nat.not_lt_zero j)) (rfl) (self2 hP) hS (lv_sub hl [2, 3, 4, 6, 7, 1, 0] rfl)
                  intro fu
                  induction fu with
                  | zero => intro i fa fb sn H locs ls hfu; exact absurd hfu (Nat.not_lt_zero _)
                  | succ fu ih_635 =>
                    intro i fa fb sn H locs ls hfu hi hf1 hf2 hf3 hs hP hS hl
                    refine lv_iload hx hb dL_act_635 (lv_at hl 6 rfl) ?_
                    refine lv_bipush (v := 8) hx hb dL_act_637 (by decide) ?_
                    refine lv_icmp_ge (tgt := 717) hx hb dL_act_639 (by decide) (fun c_639 => ?_) (fun c_639 => ?_)
                    · have c_639 : 8 ≤ i := (nI_leI (a := 8) (b := i) (by omega) (by omega)).mp c_639
                      obtain rfl : i = 8 := by omega
                      have hP := cx_re (g := (fiF (R 22))) hP qw_34 hf1 qw_R20
                      have hP := cx_re (g := lbI 0) hP qw_35 hf3 qw_R21
                      have hP := fit_sh hP
                      refine lv_aload hx hb dL_act_717 (lv_at hl 3 rfl) ?_
                      refine lv_iconst (v := 0) hx hb dL_act_719 (by decide) ?_
                      refine lv_dup2_11 hx hb dL_act_720 rfl rfl ?_
                      refine cx_iald (k := 0) hx hb hK hP 38 1 qw_38 rfl (by decide) (by decide) dL_act_721 ?_
                      refine cx_top (y := ((R 24) 0)) rfl ?_
                      refine lv_iload hx hb dL_act_722 (lv_at hl 5 rfl) ?_
                      refine lv_iadd hx hb dL_act_724 ?_
                      refine cx_iast (k := 0) hx hb hK hP (hD _ _) hS 38 1 qw_38 rfl (by decide) (by decide) qw_R24 dL_act_725 (fun H locs hP hS => ?_)
                      refine lv_aload_n hx hb dL_act_726 rfl (lv_at hl 0 rfl) ?_
                      refine cx_wi (va_runV (As := []) (rest := []) ⟨hx, hb, hml, hown, hts⟩ (c_X3_fit l D T (adq ad aq) I (updR (updR (updR (updR R 25 (fun n => trS (R 22) n 8)) 20 (fiF (R 22))) 21 (lbI 0)) 24 (upd (R 24) 0 (((R 24) 0) + sn))) _ nx ct (AD_le hQ.1 (by decide)) (hnx) (hct) (hI1) (hI2)) (cwV 0 hts gL_act_X3_fit rfl rfl rfl (by decide +kernel) ⟨Nat.le_of_ble_eq_true rfl, Nat.le_of_ble_eq_true rfl⟩) ⟨CB.blind, va_recv hK hP (ci := 3) (q0 := 0) rfl qw_0, CB.pre (qw_c hP) hK hN rfl⟩ rfl rfl hl.1 rfl (lv_room (Nat.le_of_ble_eq_true rfl)) dL_act_727 ⟨Nat.le_of_ble_eq_true rfl, Nat.le_of_ble_eq_true rfl⟩) hS (cA_sub (fun j hj => hQ.2 j (by omega)) (fun q hq => cA_new (Nat.le_trans hS.1 hq))) (cA_sub (fun j hj => hQ.2 j (by omega)) (fun q hq => cA_new (Nat.le_trans hS.1 hq))) (fun u_727 H locs hu_727 hP1 hkk hS => ?_)
                      refine cx_top (y := (cgS ((R 0)) (fiF ((R 1))) 8)) rfl ?_
                      have hP := qw_join hQ.1 hP hkk hP1
                      refine lv_iload hx hb dL_act_730 (lv_at hl 5 rfl) ?_
                      refine lv_icmp_ne (tgt := 739) hx hb dL_act_732 (by decide) (fun c_732 => ?_) (fun c_732 => ?_)
                      · exact absurd (show cgS (R 0) (fiF (R 1)) 8 = sn from by rw [h0, h1]; exact hs.symm) c_732
                      · refine lv_iconst (v := 1) hx hb dL_act_735 (by decide) ?_
                        refine lv_goto (tgt := 740) hx hb dL_act_736 (by decide) ?_
                        have j0 : 0 < 256 := by decide
                        have j4 : (upd (upd (pushI I nx ct) 4 0) 5 (I 5 + cgS ((R 0)) (fiF ((R 1))) 8)) 4 = nI 0 := (up_ne (by decide)).trans (up_eq.trans nI_0.symm)
                        have j1 : (upd (upd (pushI I nx ct) 4 0) 5 (I 5 + cgS ((R 0)) (fiF ((R 1))) 8)) 1 = nI ((nx + 1) % 6) := (up_ne (by decide)).trans ((up_ne (by decide)).trans pu_1)
                        have j2 : (upd (upd (pushI I nx ct) 4 0) 5 (I 5 + cgS ((R 0)) (fiF ((R 1))) 8)) 2 = nI (min (ct + 1) 6) := (up_ne (by decide)).trans ((up_ne (by decide)).trans pu_2)
                        have k0 : (updR (pushR (updR (updR (updR (updR R 25 (fun n => trS (R 22) n 8)) 20 (fiF (R 22))) 21 (lbI 0)) 24 (upd (R 24) 0 (((R 24) 0) + sn))) nx) 0 (fiF ((R 1)))) 0 = (updR (updR (updR (updR R 25 (fun n => trS (R 22) n 8)) 20 (fiF (R 22))) 21 (lbI 0)) 24 (upd (R 24) 0 (((R 24) 0) + sn))) 20 := by rw [ur_eq, ur_ne (by decide), ur_ne (by decide), ur_eq, h1]
                        have k1 : (updR (pushR (updR (updR (updR (updR R 25 (fun n => trS (R 22) n 8)) 20 (fiF (R 22))) 21 (lbI 0)) 24 (upd (R 24) 0 (((R 24) 0) + sn))) nx) 0 (fiF ((R 1)))) 1 = (updR (updR (updR (updR R 25 (fun n => trS (R 22) n 8)) 20 (fiF (R 22))) 21 (lbI 0)) 24 (upd (R 24) 0 (((R 24) 0) + sn))) 22 := by rw [ur_ne (by decide), pushR_k hnx (by omega), ur_ne (by decide), ur_ne (by decide), ur_ne (by decide), ur_ne (by decide), ur_ne (by decide), ur_ne (by decide), ur_ne (by decide), ur_ne (by decide), h1]
                        have kb : (updR (updR (updR (updR R 25 (fun n => trS (R 22) n 8)) 20 (fiF (R 22))) 21 (lbI 0)) 24 (upd (R 24) 0 (((R 24) 0) + sn))) 21 = lbI 0 := by rw [ur_ne (by decide), ur_eq]
                        have j5 : (upd (upd (pushI I nx ct) 4 0) 5 (I 5 + cgS ((R 0)) (fiF ((R 1))) 8)) 5 = (updR (updR (updR (updR R 25 (fun n => trS (R 22) n 8)) 20 (fiF (R 22))) 21 (lbI 0)) 24 (upd (R 24) 0 (((R 24) 0) + sn))) 24 0 := by rw [ur_eq, up_eq, up_eq, h0, h1, h5, ← hs]
                        have ka : BdA ((updR (updR (updR (updR R 25 (fun n => trS (R 22) n 8)) 20 (fiF (R 22))) 21 (lbI 0)) 24 (upd (R 24) 0 (((R 24) 0) + sn))) 20) := by rw [ur_ne (by decide), ur_ne (by decide), ur_eq]; exact bd_fi _
                        have kp : BdP ((updR (updR (updR (updR R 25 (fun n => trS (R 22) n 8)) 20 (fiF (R 22))) 21 (lbI 0)) 24 (upd (R 24) 0 (((R 24) 0) + sn))) 22) := by rw [ur_ne (by decide), ur_ne (by decide), ur_ne (by decide), ur_ne (by decide)]; exact hbp
                        refine W.widen (k := 3) (n := 18) (by decide) (by decide) ?_
                        exact W.zret (v := 1) hx hb hr (rfl) (fun t ht hW => ⟨⟨1, ((upd (upd (pushI I nx ct) 4 0) 5 (I 5 + cgS ((R 0)) (fiF ((R 1))) 8)), (mixR (updR (pushR (updR (updR (updR (updR R 25 (fun n => trS (R 22) n 8)) 20 (fiF (R 22))) 21 (lbI 0)) 24 (upd (R 24) 0 (((R 24) 0) + sn))) nx) 0 (fiF ((R 1)))) (updR (updR (updR (updR R 25 (fun n => trS (R 22) n 8)) 20 (fiF (R 22))) 21 (lbI 0)) 24 (upd (R 24) 0 (((R 24) 0) + sn)))), 0, (nx + 1) % 6, min (ct + 1) 6), rfl, ⟨rfl, jl_mix j0 j4 j1 j2 k0 k1 kb j5 ka kp⟩, by show va_P _ _ _ _; rw [ht]; exact (qw_pw0 hP)⟩, hS.F ht⟩) hS.2.2 dL_act_740
                    · have c_639 : ¬ (8 ≤ i) := fun h => c_639 ((nI_leI (a := 8) (b := i) (by omega) (by omega)).mpr h)
                      refine lv_aload hx hb dL_act_642 (lv_at hl 4 rfl) ?_
                      refine lv_iload hx hb dL_act_644 (lv_at hl 6 rfl) ?_
                      refine cx_iald (k := i) hx hb hK hP 39 1 qw_39 rfl (by omega) (by decide) dL_act_646 ?_
                      refine cx_top (y := ((fun n => trS (R 22) n 8) i)) rfl ?_
                      refine cx_top (show ((fun n => trS (R 22) n 8) i) = (trS (R 22) i 8) from rfl) ?_
                      refine cx_ri (va_runS (As := [.int (trS (R 22) i 8)]) (rest := []) ⟨hx, hb, hml, hown, hts⟩ (c_L_eighth l  (trS (R 22) i 8) ((tr_90 hbp i).1) ((tr_90 hbp i).2)) (va_cwS 1 hts gL_act_L_eighth rfl rfl rfl (by decide +kernel) ⟨Nat.le_of_ble_eq_true rfl, Nat.le_of_ble_eq_true rfl⟩) ⟨pc_blind, (fun U hU hW => ⟨rfl, trivial⟩)⟩ rfl rfl hl.1 rfl (lv_room (Nat.le_of_ble_eq_true rfl)) dL_act_647 ⟨Nat.le_of_ble_eq_true rfl, Nat.le_of_ble_eq_true rfl⟩) hS hP (fun H locs hP hS => ?_)
                      refine lv_istore (lv' := [(13, .int ((trS (R 22) i 8) >>> (3 : Int32))), (0, .ref ((adq ad aq) 0)), (3, .ref ((adq ad aq) 34)), (4, .ref ((adq ad aq) 35)), (7, .ref ((adq ad aq) 38)), (10, .ref ((adq ad aq) 39)), (11, .int sn), (12, .int (nI i))]) hx hb dL_act_650 hl (by decide) rfl (fun ls hl => ?_)
                      refine lv_iload hx hb dL_act_652 (lv_at hl 0 rfl) ?_
                      refine lv_bipush (v := 99) hx hb dL_act_654 (by decide) ?_
                      refine lv_icmp_le (tgt := 664) hx hb dL_act_656 (by decide) (fun c_656 => ?_) (fun c_656 => ?_)
                      · refine lv_iload hx hb dL_act_664 (lv_at hl 0 rfl) ?_
                        refine lv_bipush (v := (-99)) hx hb dL_act_666 (by decide) ?_
                        refine lv_icmp_ge (tgt := 676) hx hb dL_act_668 (by decide) (fun c_668 => ?_) (fun c_668 => ?_)
                        · refine lv_iload hx hb dL_act_676 (lv_at hl 0 rfl) ?_
                          refine cx_top (show ((trS (R 22) i 8) >>> (3 : Int32)) = (fiF (R 22) i) from (cl_c c_656 c_668).trans fi_cl) ?_
                          refine lv_istore (lv' := [(13, .int (fiF (R 22) i)), (0, .ref ((adq ad aq) 0)), (3, .ref ((adq ad aq) 34)), (4, .ref ((adq ad aq) 35)), (7, .ref ((adq ad aq) 38)), (10, .ref ((adq ad aq) 39)), (11, .int sn), (12, .int (nI i))]) hx hb dL_act_678 hl (by decide) rfl (fun ls hl => ?_)
                          refine lv_iload hx hb dL_act_680 (lv_at hl 6 rfl) ?_
                          refine lv_iload hx hb dL_act_682 (lv_at hl 0 rfl) ?_
                          refine lv_aload_n hx hb dL_act_684 rfl (lv_at hl 2 rfl) ?_
                          refine lv_iload hx hb dL_act_685 (lv_at hl 7 rfl) ?_
                          refine cx_iald (k := i) hx hb hK hP 34 1 qw_34 rfl (by omega) (by decide) dL_act_687 ?_
                          refine cx_top (y := (fa i)) rfl ?_
                          refine lv_icmp_ne (tgt := 695) hx hb dL_act_688 (by decide) (fun c_688 => ?_) (fun c_688 => ?_)
                          · refine lv_iconst (v := 1) hx hb dL_act_695 (by decide) ?_
                            refine lv_iadd hx hb dL_act_696 ?_
                            refine lv_istore (lv' := [(11, .int (sn + 1)), (13, .int (fiF (R 22) i)), (0, .ref ((adq ad aq) 0)), (3, .ref ((adq ad aq) 34)), (4, .ref ((adq ad aq) 35)), (7, .ref ((adq ad aq) 38)), (10, .ref ((adq ad aq) 39)), (12, .int (nI i))]) hx hb dL_act_697 hl (by decide) rfl (fun ls hl => ?_)
                            refine lv_aload_n hx hb dL_act_699 rfl (lv_at hl 3 rfl) ?_
                            refine lv_iload hx hb dL_act_700 (lv_at hl 7 rfl) ?_
                            refine lv_iload hx hb dL_act_702 (lv_at hl 1 rfl) ?_
                            refine cx_iast (k := i) hx hb hK hP (hD _ _) hS 34 1 qw_34 rfl (by omega) (by decide) qw_R20 dL_act_704 (fun H locs hP hS => ?_)
                            refine lv_aload hx hb dL_act_705 (lv_at hl 4 rfl) ?_
                            refine lv_iload hx hb dL_act_707 (lv_at hl 7 rfl) ?_
                            refine lv_iconst (v := 0) hx hb dL_act_709 (by decide) ?_
                            refine cx_iast (k := i) hx hb hK hP (hD _ _) hS 35 1 qw_35 rfl (by omega) (by decide) qw_R21 dL_act_710 (fun H locs hP hS => ?_)
                            refine lv_iinc (k := 7) (v := (nI (i + 1))) (lv' := [(12, .int (nI (i + 1))), (11, .int (sn + 1)), (13, .int (fiF (R 22) i)), (0, .ref ((adq ad aq) 0)), (3, .ref ((adq ad aq) 34)), (4, .ref ((adq ad aq) 35)), (7, .ref ((adq ad aq) 38)), (10, .ref ((adq ad aq) 39))]) hx hb dL_act_711 hl rfl (nI_add i 1) (by decide) rfl (fun ls hl => ?_)
                            refine lv_goto (tgt := 635) hx hb dL_act_714 (by decide) ?_
                            exact ih_635 (i + 1) (upd fa i (fiF (R 22) i)) (upd fb i 0) (sn + 1) _ _ _ (by omega) (by omega) (up_at hf1 rfl) (un_up hf2) (up_at hf3 (lb_z i).symm) (cg_f hs (hf2 i (Nat.le_refl i)) (fun h => c_688 h.symm)) (fit_sh hP) hS (lv_sub hl [3, 4, 5, 6, 7, 1, 0] rfl)
                          · refine lv_iconst (v := 0) hx hb dL_act_691 (by decide) ?_
                            refine lv_goto (tgt := 696) hx hb dL_act_692 (by decide) ?_
                            refine lv_iadd hx hb dL_act_696 ?_
                            refine lv_istore (lv' := [(11, .int (sn + 0)), (13, .int (fiF (R 22) i)), (0, .ref ((adq ad aq) 0)), (3, .ref ((adq ad aq) 34)), (4, .ref ((adq ad aq) 35)), (7, .ref ((adq ad aq) 38)), (10, .ref ((adq ad aq) 39)), (12, .int (nI i))]) hx hb dL_act_697 hl (by decide) rfl (fun ls hl => ?_)
                            refine lv_aload_n hx hb dL_act_699 rfl (lv_at hl 3 rfl) ?_
                            refine lv_iload hx hb dL_act_700 (lv_at hl 7 rfl) ?_
                            refine lv_iload hx hb dL_act_702 (lv_at hl 1 rfl) ?_
                            refine cx_iast (k := i) hx hb hK hP (hD _ _) hS 34 1 qw_34 rfl (by omega) (by decide) qw_R20 dL_act_704 (fun H locs hP hS => ?_)
                            refine lv_aload hx hb dL_act_705 (lv_at hl 4 rfl) ?_
                            refine lv_iload hx hb dL_act_707 (lv_at hl 7 rfl) ?_
                            refine lv_iconst (v := 0) hx hb dL_act_709 (by decide) ?_
                            refine cx_iast (k := i) hx hb hK hP (hD _ _) hS 35 1 qw_35 rfl (by omega) (by decide) qw_R21 dL_act_710 (fun H locs hP hS => ?_)
                            refine lv_iinc (k := 7) (v := (nI (i + 1))) (lv' := [(12, .int (nI (i + 1))), (11, .int (sn + 0)), (13, .int (fiF (R 22) i)), (0, .ref ((adq ad aq) 0)), (3, .ref ((adq ad aq) 34)), (4, .ref ((adq ad aq) 35)), (7, .ref ((adq ad aq) 38)), (10, .ref ((adq ad aq) 39))]) hx hb dL_act_711 hl rfl (nI_add i 1) (by decide) rfl (fun ls hl => ?_)
                            refine lv_goto (tgt := 635) hx hb dL_act_714 (by decide) ?_
                            exact ih_635 (i + 1) (upd fa i (fiF (R 22) i)) (upd fb i 0) (sn + 0) _ _ _ (by omega) (by omega) (up_at hf1 rfl) (un_up hf2) (up_at hf3 (lb_z i).symm) (cg_t hs (hf2 i (Nat.le_refl i)) c_688.symm) (fit_sh hP) hS (lv_sub hl [3, 4, 5, 6, 7, 1, 0] rfl)
                        · refine lv_bipush (v := (-99)) hx hb dL_act_671 (by decide) ?_
                          refine lv_goto (tgt := 678) hx hb dL_act_673 (by decide) ?_
                          refine cx_top (show (-99) = (fiF (R 22) i) from (cl_b c_668).trans fi_cl) ?_
                          refine lv_istore (lv' := [(13, .int (fiF (R 22) i)), (0, .ref ((adq ad aq) 0)), (3, .ref ((adq ad aq) 34)), (4, .ref ((adq ad aq) 35)), (7, .ref ((adq ad aq) 38)), (10, .ref ((adq ad aq) 39)), (11, .int sn), (12, .int (nI i))]) hx hb dL_act_678 hl (by decide) rfl (fun ls hl => ?_)
                          refine lv_iload hx hb dL_act_680 (lv_at hl 6 rfl) ?_
                          refine lv_iload hx hb dL_act_682 (lv_at hl 0 rfl) ?_
                          refine lv_aload_n hx hb dL_act_684 rfl (lv_at hl 2 rfl) ?_
                          refine lv_iload hx hb dL_act_685 (lv_at hl 7 rfl) ?_
                          refine cx_iald (k := i) hx hb hK hP 34 1 qw_34 rfl (by omega) (by decide) dL_act_687 ?_
                          refine cx_top (y := (fa i)) rfl ?_
                          refine lv_icmp_ne (tgt := 695) hx hb dL_act_688 (by decide) (fun c_688 => ?_) (fun c_688 => ?_)
                          · refine lv_iconst (v := 1) hx hb dL_act_695 (by decide) ?_
                            refine lv_iadd hx hb dL_act_696 ?_
                            refine lv_istore (lv' := [(11, .int (sn + 1)), (13, .int (fiF (R 22) i)), (0, .ref ((adq ad aq) 0)), (3, .ref ((adq ad aq) 34)), (4, .ref ((adq ad aq) 35)), (7, .ref ((adq ad aq) 38)), (10, .ref ((adq ad aq) 39)), (12, .int (nI i))]) hx hb dL_act_697 hl (by decide) rfl (fun ls hl => ?_)
                            refine lv_aload_n hx hb dL_act_699 rfl (lv_at hl 3 rfl) ?_
                            refine lv_iload hx hb dL_act_700 (lv_at hl 7 rfl) ?_
                            refine lv_iload hx hb dL_act_702 (lv_at hl 1 rfl) ?_
                            refine cx_iast (k := i) hx hb hK hP (hD _ _) hS 34 1 qw_34 rfl (by omega) (by decide) qw_R20 dL_act_704 (fun H locs hP hS => ?_)
                            refine lv_aload hx hb dL_act_705 (lv_at hl 4 rfl) ?_
                            refine lv_iload hx hb dL_act_707 (lv_at hl 7 rfl) ?_
                            refine lv_iconst (v := 0) hx hb dL_act_709 (by decide) ?_
                            refine cx_iast (k := i) hx hb hK hP (hD _ _) hS 35 1 qw_35 rfl (by omega) (by decide) qw_R21 dL_act_710 (fun H locs hP hS => ?_)
                            refine lv_iinc (k := 7) (v := (nI (i + 1))) (lv' := [(12, .int (nI (i + 1))), (11, .int (sn + 1)), (13, .int (fiF (R 22) i)), (0, .ref ((adq ad aq) 0)), (3, .ref ((adq ad aq) 34)), (4, .ref ((adq ad aq) 35)), (7, .ref ((adq ad aq) 38)), (10, .ref ((adq ad aq) 39))]) hx hb dL_act_711 hl rfl (nI_add i 1) (by decide) rfl (fun ls hl => ?_)
                            refine lv_goto (tgt := 635) hx hb dL_act_714 (by decide) ?_
                            exact ih_635 (i + 1) (upd fa i (fiF (R 22) i)) (upd fb i 0) (sn + 1) _ _ _ (by omega) (by omega) (up_at hf1 rfl) (un_up hf2) (up_at hf3 (lb_z i).symm) (cg_f hs (hf2 i (Nat.le_refl i)) (fun h => c_688 h.symm)) (fit_sh hP) hS (lv_sub hl [3, 4, 5, 6, 7, 1, 0] rfl)
                          · refine lv_iconst (v := 0) hx hb dL_act_691 (by decide) ?_
                            refine lv_goto (tgt := 696) hx hb dL_act_692 (by decide) ?_
                            refine lv_iadd hx hb dL_act_696 ?_
                            refine lv_istore (lv' := [(11, .int (sn + 0)), (13, .int (fiF (R 22) i)), (0, .ref ((adq ad aq) 0)), (3, .ref ((adq ad aq) 34)), (4, .ref ((adq ad aq) 35)), (7, .ref ((adq ad aq) 38)), (10, .ref ((adq ad aq) 39)), (12, .int (nI i))]) hx hb dL_act_697 hl (by decide) rfl (fun ls hl => ?_)
                            refine lv_aload_n hx hb dL_act_699 rfl (lv_at hl 3 rfl) ?_
                            refine lv_iload hx hb dL_act_700 (lv_at hl 7 rfl) ?_
                            refine lv_iload hx hb dL_act_702 (lv_at hl 1 rfl) ?_
                            refine cx_iast (k := i) hx hb hK hP (hD _ _) hS 34 1 qw_34 rfl (by omega) (by decide) qw_R20 dL_act_704 (fun H locs hP hS => ?_)
                            refine lv_aload hx hb dL_act_705 (lv_at hl 4 rfl) ?_
                            refine lv_iload hx hb dL_act_707 (lv_at hl 7 rfl) ?_
                            refine lv_iconst (v := 0) hx hb dL_act_709 (by decide) ?_
                            refine cx_iast (k := i) hx hb hK hP (hD _ _) hS 35 1 qw_35 rfl (by omega) (by decide) qw_R21 dL_act_710 (fun H locs hP hS => ?_)
                            refine lv_iinc (k := 7) (v := (nI (i + 1))) (lv' := [(12, .int (nI (i + 1))), (11, .int (sn + 0)), (13, .int (fiF (R 22) i)), (0, .ref ((adq ad aq) 0)), (3, .ref ((adq ad aq) 34)), (4, .ref ((adq ad aq) 35)), (7, .ref ((adq ad aq) 38)), (10, .ref ((adq ad aq) 39))]) hx hb dL_act_711 hl rfl (nI_add i 1) (by decide) rfl (fun ls hl => ?_)
                            refine lv_goto (tgt := 635) hx hb dL_act_714 (by decide) ?_
                            exact ih_635 (i + 1) (upd fa i (fiF (R 22) i)) (upd fb i 0) (sn + 0) _ _ _ (by omega) (by omega) (up_at hf1 rfl) (un_up hf2) (up_at hf3 (lb_z i).symm) (cg_t hs (hf2 i (Nat.le_refl i)) c_688.symm) (fit_sh hP) hS (lv_sub hl [3, 4, 5, 6, 7, 1, 0] rfl)
                      · refine lv_bipush (v := 99) hx hb dL_act_659 (by decide) ?_
                        refine lv_goto (tgt := 678) hx hb dL_act_661 (by decide) ?_
                        refine cx_top (show 99 = (fiF (R 22) i) from (cl_a c_656).trans fi_cl) ?_
                        refine lv_istore (lv' := [(13, .int (fiF (R 22) i)), (0, .ref ((adq ad aq) 0)), (3, .ref ((adq ad aq) 34)), (4, .ref ((adq ad aq) 35)), (7, .ref ((adq ad aq) 38)), (10, .ref ((adq ad aq) 39)), (11, .int sn), (12, .int (nI i))]) hx hb dL_act_678 hl (by decide) rfl (fun ls hl => ?_)
                        refine lv_iload hx hb dL_act_680 (lv_at hl 6 rfl) ?_
                        refine lv_iload hx hb dL_act_682 (lv_at hl 0 rfl) ?_
                        refine lv_aload_n hx hb dL_act_684 rfl (lv_at hl 2 rfl) ?_
                        refine lv_iload hx hb dL_act_685 (lv_at hl 7 rfl) ?_
                        refine cx_iald (k := i) hx hb hK hP 34 1 qw_34 rfl (by omega) (by decide) dL_act_687 ?_
                        refine cx_top (y := (fa i)) rfl ?_
                        refine lv_icmp_ne (tgt := 695) hx hb dL_act_688 (by decide) (fun c_688 => ?_) (fun c_688 => ?_)
                        · refine lv_iconst (v := 1) hx hb dL_act_695 (by decide) ?_
                          refine lv_iadd hx hb dL_act_696 ?_
                          refine lv_istore (lv' := [(11, .int (sn + 1)), (13, .int (fiF (R 22) i)), (0, .ref ((adq ad aq) 0)), (3, .ref ((adq ad aq) 34)), (4, .ref ((adq ad aq) 35)), (7, .ref ((adq ad aq) 38)), (10, .ref ((adq ad aq) 39)), (12, .int (nI i))]) hx hb dL_act_697 hl (by decide) rfl (fun ls hl => ?_)
                          refine lv_aload_n hx hb dL_act_699 rfl (lv_at hl 3 rfl) ?_
                          refine lv_iload hx hb dL_act_700 (lv_at hl 7 rfl) ?_
                          refine lv_iload hx hb dL_act_702 (lv_at hl 1 rfl) ?_
                          refine cx_iast (k := i) hx hb hK hP (hD _ _) hS 34 1 qw_34 rfl (by omega) (by decide) qw_R20 dL_act_704 (fun H locs hP hS => ?_)
                          refine lv_aload hx hb dL_act_705 (lv_at hl 4 rfl) ?_
                          refine lv_iload hx hb dL_act_707 (lv_at hl 7 rfl) ?_
                          refine lv_iconst (v := 0) hx hb dL_act_709 (by decide) ?_
                          refine cx_iast (k := i) hx hb hK hP (hD _ _) hS 35 1 qw_35 rfl (by omega) (by decide) qw_R21 dL_act_710 (fun H locs hP hS => ?_)
                          refine lv_iinc (k := 7) (v := (nI (i + 1))) (lv' := [(12, .int (nI (i + 1))), (11, .int (sn + 1)), (13, .int (fiF (R 22) i)), (0, .ref ((adq ad aq) 0)), (3, .ref ((adq ad aq) 34)), (4, .ref ((adq ad aq) 35)), (7, .ref ((adq ad aq) 38)), (10, .ref ((adq ad aq) 39))]) hx hb dL_act_711 hl rfl (nI_add i 1) (by decide) rfl (fun ls hl => ?_)
                          refine lv_goto (tgt := 635) hx hb dL_act_714 (by decide) ?_
                          exact ih_635 (i + 1) (upd fa i (fiF (R 22) i)) (upd fb i 0) (sn + 1) _ _ _ (by omega) (by omega) (up_at hf1 rfl) (un_up hf2) (up_at hf3 (lb_z i).symm) (cg_f hs (hf2 i (Nat.le_refl i)) (fun h => c_688 h.symm)) (fit_sh hP) hS (lv_sub hl [3, 4, 5, 6, 7, 1, 0] rfl)
                        · refine lv_iconst (v := 0) hx hb dL_act_691 (by decide) ?_
                          refine lv_goto (tgt := 696) hx hb dL_act_692 (by decide) ?_
                          refine lv_iadd hx hb dL_act_696 ?_
                          refine lv_istore (lv' := [(11, .int (sn + 0)), (13, .int (fiF (R 22) i)), (0, .ref ((adq ad aq) 0)), (3, .ref ((adq ad aq) 34)), (4, .ref ((adq ad aq) 35)), (7, .ref ((adq ad aq) 38)), (10, .ref ((adq ad aq) 39)), (12, .int (nI i))]) hx hb dL_act_697 hl (by decide) rfl (fun ls hl => ?_)
                          refine lv_aload_n hx hb dL_act_699 rfl (lv_at hl 3 rfl) ?_
                          refine lv_iload hx hb dL_act_700 (lv_at hl 7 rfl) ?_
                          refine lv_iload hx hb dL_act_702 (lv_at hl 1 rfl) ?_
                          refine cx_iast (k := i) hx hb hK hP (hD _ _) hS 34 1 qw_34 rfl (by omega) (by decide) qw_R20 dL_act_704 (fun H locs hP hS => ?_)
                          refine lv_aload hx hb dL_act_705 (lv_at hl 4 rfl) ?_
                          refine lv_iload hx hb dL_act_707 (lv_at hl 7 rfl) ?_
                          refine lv_iconst (v := 0) hx hb dL_act_709 (by decide) ?_
                          refine cx_iast (k := i) hx hb hK hP (hD _ _) hS 35 1 qw_35 rfl (by omega) (by decide) qw_R21 dL_act_710 (fun H locs hP hS => ?_)
                          refine lv_iinc (k := 7) (v := (nI (i + 1))) (lv' := [(12, .int (nI (i + 1))), (11, .int (sn + 0)), (13, .int (fiF (R 22) i)), (0, .ref ((adq ad aq) 0)), (3, .ref ((adq ad aq) 34)), (4, .ref ((adq ad aq) 35)), (7, .ref ((adq ad aq) 38)), (10, .ref ((adq ad aq) 39))]) hx hb dL_act_711 hl rfl (nI_add i 1) (by decide) rfl (fun ls hl => ?_)
                          refine lv_goto (tgt := 635) hx hb dL_act_714 (by decide) ?_
                          exact ih_635 (i + 1) (upd fa i (fiF (R 22) i)) (upd fb i 0) (sn + 0) _ _ _ (by omega) (by omega) (up_at hf1 rfl) (un_up hf2) (up_at hf3 (lb_z i).symm) (cg_t hs (hf2 i (Nat.le_refl i)) c_688.symm) (fit_sh hP) hS (lv_sub hl [3, 4, 5, 6, 7, 1, 0] rfl)
                · have c_605 : ¬ (8 ≤ i) := fun h => c_605 ((nI_leI (a := 8) (b := i) (by omega) (by omega)).mpr h)
                  refine lv_aload hx hb dL_act_608 (lv_at hl 5 rfl) ?_
                  refine lv_iload hx hb dL_act_610 (lv_at hl 6 rfl) ?_
                  refine lv_aload hx hb dL_act_612 (lv_at hl 3 rfl) ?_
                  refine lv_iload hx hb dL_act_614 (lv_at hl 6 rfl) ?_
                  refine cx_iald (k := i) hx hb hK hP 36 1 qw_36 rfl (by omega) (by decide) dL_act_616 ?_
                  refine cx_top (y := ((R 22) i)) rfl ?_
                  refine cx_iast (k := i) hx hb hK hP (hD _ _) hS 39 1 qw_39 rfl (by omega) (by decide) qw_R25 dL_act_617 (fun H locs hP hS => ?_)
                  refine lv_iinc (k := 6) (v := (nI (i + 1))) (lv' := [(11, .int (nI (i + 1))), (0, .ref ((adq ad aq) 0)), (3, .ref ((adq ad aq) 34)), (4, .ref ((adq ad aq) 35)), (5, .ref ((adq ad aq) 36)), (7, .ref ((adq ad aq) 38)), (10, .ref ((adq ad aq) 39))]) hx hb dL_act_618 hl rfl (nI_add i 1) (by decide) rfl (fun ls hl => ?_)
                  refine lv_goto (tgt := 601) hx hb dL_act_621 (by decide) ?_
                  exact ih_601 (i + 1) (upd f i ((R 22) i)) _ _ _ (by omega) (by omega) (up_lt hf rfl) (updQ hP) hS (lv_sub hl [1, 2, 3, 4, 5, 6, 0] rfl)
            · have c_522 : ¬ (14 ≤ hw) := fun h => c_522 ((nI_leI (a := 14) (b := hw) (by omega) (by omega)).mpr h)
              refine lv_iconst (v := 0) hx hb dL_act_525 (by decide) ?_
              refine lv_istore (lv' := [(10, .int 0), (9, .int (nI k)), (8, .int (nI hw)), (0, .ref (ad 0)), (1, .int x), (2, .int y), (3, .ref (ad 34)), (4, .ref (ad 35)), (5, .ref (ad 36)), (6, .ref (ad 37)), (7, .ref (ad 38))]) hx hb dL_act_526 hl (by decide) rfl (fun ls hl => ?_)
              refine lv_iconst (v := 0) hx hb dL_act_528 (by decide) ?_
              refine lv_istore (lv' := [(11, .int 0), (10, .int 0), (9, .int (nI k)), (8, .int (nI hw)), (0, .ref (ad 0)), (1, .int x), (2, .int y), (3, .ref (ad 34)), (4, .ref (ad 35)), (5, .ref (ad 36)), (6, .ref (ad 37)), (7, .ref (ad 38))]) hx hb dL_act_529 hl (by decide) rfl (fun ls hl => ?_)
              suffices ih_531 : ∀ (fu : Nat) (i : Nat) (f : Nat → Int32) (sn : Int32) (H : Heap) (locs : List Loc) (ls : Array Slot), 8 - i < fu → (i ≤ 8) → (∀ j, j < i → f j = R 23 j) → (∀ j, i ≤ j → f j = R 22 j) → (sn = cgS (R 22) (R 23) i) → va_P D vwCl (pw T ad I (updR R 22 f)) H →  va_S (cA 39 ad s.heap.size) s.heap H locs → lv_has ls 14 [(0, .ref (ad 0)), (5, .ref (ad 36)), (6, .ref (ad 37)), (10, .int sn), (11, .int (nI i))] → W p l e (headSpec wsL_act ({ frames := 8, cells := 3, slots := 18, locals := 129 })).room s m ([.ref (ad 0), .int x, .int y, .ref (ad 34), .ref (ad 35), .ref (ad 36), .ref (ad 37), .ref (ad 38)] : List Value).toArray below meth c H locs 0 0 (MQ below (va_Qi (fun r (u : (Nat → Int32) × (Nat → Nat → Int32) × Nat × Nat × Nat) => r = 1 ∧ JL u.2.2.1 u.2.2.2.1 u.2.2.2.2 u.1 u.2.1) (fun (u : (Nat → Int32) × (Nat → Nat → Int32) × Nat × Nat × Nat) t => va_P D vwCl (pw T ad u.1 u.2.1) t.heap) (cA 39 ad s.heap.size)) ([.ref (ad 0), .int x, .int y, .ref (ad 34), .ref (ad 35), .ref (ad 36), .ref (ad 37), .ref (ad 38)] : List Value).toArray s 3 18 (cA 39 ad s.heap.size)) (F0 m 531 ls []) from
                ih_531 _ 0 (R 22) 0 _ _ _ (Nat.lt_succ_self _) (by omega) (fun j h => absurd h (Nat.not_lt_zero j)) (fun j _ => rfl) (rfl) (selfP hP) hS (lv_sub hl [4, 9, 10, 1, 0] rfl)
              intro fu
              induction fu with
              | zero => intro i f sn H locs ls hfu; exact absurd hfu (Nat.not_lt_zero _)
              | succ fu ih_531 =>
                intro i f sn H locs ls hfu hi hf1 hf2 hs hP hS hl
                refine lv_iload hx hb dL_act_531 (lv_at hl 4 rfl) ?_
                refine lv_bipush (v := 8) hx hb dL_act_533 (by decide) ?_
                refine lv_icmp_ge (tgt := 577) hx hb dL_act_535 (by decide) (fun c_535 => ?_) (fun c_535 => ?_)
                · have c_535 : 8 ≤ i := (nI_leI (a := 8) (b := i) (by omega) (by omega)).mp c_535
                  obtain rfl : i = 8 := by omega
                  have hP := updP (cx_re hP pw_36 hf1 pw_R22)
                  refine lv_aload_n hx hb dL_act_577 rfl (lv_at hl 0 rfl) ?_
                  refine cx_wi (va_runV (As := []) (rest := []) ⟨hx, hb, hml, hown, hts⟩ (c_X3_copy l D T ad I (updR R 22 (R 23)) _ nx ct lm (AD_le hAD (by decide)) (hnx) (hct) (hI1) (hI2) (hm) (hI)) (cwV 0 hts gL_act_X3_copy rfl rfl rfl (by decide +kernel) ⟨Nat.le_of_ble_eq_true rfl, Nat.le_of_ble_eq_true rfl⟩) ⟨CB.blind, va_recv hK hP (ci := 3) (q0 := 0) rfl pw_0, CB.pre (pw_c hP) hK hN rfl⟩ rfl rfl hl.1 rfl (lv_room (Nat.le_of_ble_eq_true rfl)) dL_act_578 ⟨Nat.le_of_ble_eq_true rfl, Nat.le_of_ble_eq_true rfl⟩) hS (cA_sub (fun j hj => cA_in (by omega)) (fun q hq => cA_new (Nat.le_trans hS.1 hq))) (cA_sub (fun j hj => cA_in (by omega)) (fun q hq => cA_new (Nat.le_trans hS.1 hq))) (fun u_578 H locs hu_578 hP1 hkk hS => ?_)
                  refine cx_top (y := (cgS ((R 1)) (fun n => trS (dr ((R 0)) lm) n 8) 8)) rfl ?_
                  have hP := pw_join hAD hP hkk hP1
                  refine lv_iload hx hb dL_act_581 (lv_at hl 3 rfl) ?_
                  refine lv_icmp_ne (tgt := 590) hx hb dL_act_583 (by decide) (fun c_583 => ?_) (fun c_583 => ?_)
                  · exact absurd (show cgS (R 1) (fun n => trS (dr (R 0) lm) n 8) 8 = sn from by rw [h0, h1, ← ht]; exact hs.symm) c_583
                  · refine lv_iconst (v := 1) hx hb dL_act_586 (by decide) ?_
                    refine lv_goto (tgt := 591) hx hb dL_act_587 (by decide) ?_
                    have j0 : lm < 256 := hm
                    have j4 : (pushI I nx ct) 4 = nI lm := pushI_4.trans hI
                    have j1 : (pushI I nx ct) 1 = nI ((nx + 1) % 6) := pu_1
                    have j2 : (pushI I nx ct) 2 = nI (min (ct + 1) 6) := pu_2
                    have k0 : (updR (pushR (updR R 22 (R 23)) nx) 1 (fun n => trS (dr ((R 0)) lm) n 8)) 0 = (updR R 22 (R 23)) 20 := by rw [ur_ne (by decide), pushR_k hnx (by omega), ur_ne (by decide), ur_ne (by decide), h0]
                    have k1 : (updR (pushR (updR R 22 (R 23)) nx) 1 (fun n => trS (dr ((R 0)) lm) n 8)) 1 = (updR R 22 (R 23)) 22 := by rw [ur_eq, ur_eq, h0, ht]
                    have kb : (updR R 22 (R 23)) 21 = lbI lm := by rw [ur_ne (by decide)]; exact hb1
                    have j5 : (pushI I nx ct) 5 = (updR R 22 (R 23)) 24 0 := by rw [ur_ne (by decide)]; exact pushI_5.trans h5
                    have ka : BdA ((updR R 22 (R 23)) 20) := by rw [ur_ne (by decide)]; exact hbd
                    have kp : BdP ((updR R 22 (R 23)) 22) := by rw [ur_eq, ht]; exact bp_tr hbd lm
                    refine W.widen (k := 3) (n := 18) (by decide) (by decide) ?_
                    exact W.zret (v := 1) hx hb hr (rfl) (fun t ht hW => ⟨⟨1, ((pushI I nx ct), (mixR (updR (pushR (updR R 22 (R 23)) nx) 1 (fun n => trS (dr ((R 0)) lm) n 8)) (updR R 22 (R 23))), lm, (nx + 1) % 6, min (ct + 1) 6), rfl, ⟨rfl, jl_mix j0 j4 j1 j2 k0 k1 kb j5 ka kp⟩, by show va_P _ _ _ _; rw [ht]; exact hP⟩, hS.F ht⟩) hS.2.2 dL_act_591
                · have c_535 : ¬ (8 ≤ i) := fun h => c_535 ((nI_leI (a := 8) (b := i) (by omega) (by omega)).mpr h)
                  refine lv_iload hx hb dL_act_538 (lv_at hl 3 rfl) ?_
                  refine lv_aload hx hb dL_act_540 (lv_at hl 1 rfl) ?_
                  refine lv_iload hx hb dL_act_542 (lv_at hl 4 rfl) ?_
                  refine cx_iald (k := i) hx hb hK hP 36 1 pw_36 rfl (by omega) (by decide) dL_act_544 ?_
                  refine cx_top (y := (f i)) rfl ?_
                  refine lv_aload hx hb dL_act_545 (lv_at hl 2 rfl) ?_
                  refine lv_iload hx hb dL_act_547 (lv_at hl 4 rfl) ?_
                  refine cx_iald (k := i) hx hb hK hP 37 1 pw_37 rfl (by omega) (by decide) dL_act_549 ?_
                  refine cx_top (y := ((R 23) i)) rfl ?_
                  refine lv_icmp_eq (tgt := 557) hx hb dL_act_550 (by decide) (fun c_550 => ?_) (fun c_550 => ?_)
                  · refine lv_iconst (v := 0) hx hb dL_act_557 (by decide) ?_
                    refine lv_iadd hx hb dL_act_558 ?_
                    refine lv_istore (lv' := [(10, .int (sn + 0)), (0, .ref (ad 0)), (5, .ref (ad 36)), (6, .ref (ad 37)), (11, .int (nI i))]) hx hb dL_act_559 hl (by decide) rfl (fun ls hl => ?_)
                    refine lv_aload hx hb dL_act_561 (lv_at hl 2 rfl) ?_
                    refine lv_iload hx hb dL_act_563 (lv_at hl 4 rfl) ?_
                    refine lv_aload hx hb dL_act_565 (lv_at hl 3 rfl) ?_
                    refine lv_iload hx hb dL_act_567 (lv_at hl 4 rfl) ?_
                    refine cx_iald (k := i) hx hb hK hP 37 1 pw_37 rfl (by omega) (by decide) dL_act_569 ?_
                    refine cx_top (y := ((R 23) i)) rfl ?_
                    refine cx_iast (k := i) hx hb hK hP (hD _ _) hS 36 1 pw_36 rfl (by omega) (by decide) pw_R22 dL_act_570 (fun H locs hP hS => ?_)
                    refine lv_iinc (k := 4) (v := (nI (i + 1))) (lv' := [(11, .int (nI (i + 1))), (10, .int (sn + 0)), (0, .ref (ad 0)), (5, .ref (ad 36)), (6, .ref (ad 37))]) hx hb dL_act_571 hl rfl (nI_add i 1) (by decide) rfl (fun ls hl => ?_)
                    refine lv_goto (tgt := 531) hx hb dL_act_574 (by decide) ?_
                    exact ih_531 (i + 1) (upd f i ((R 23) i)) (sn + 0) _ _ _ (by omega) (by omega) (up_at hf1 rfl) (un_up hf2) (cg_t hs (hf2 i (Nat.le_refl i)) c_550) (updP hP) hS (lv_sub hl [2, 3, 4, 1, 0] rfl)
                  · refine lv_iconst (v := 1) hx hb dL_act_553 (by decide) ?_
                    refine lv_goto (tgt := 558) hx hb dL_act_554 (by decide) ?_
                    refine lv_iadd hx hb dL_act_558 ?_
                    refine lv_istore (lv' := [(10, .int (sn + 1)), (0, .ref (ad 0)), (5, .ref (ad 36)), (6, .ref (ad 37)), (11, .int (nI i))]) hx hb dL_act_559 hl (by decide) rfl (fun ls hl => ?_)
                    refine lv_aload hx hb dL_act_561 (lv_at hl 2 rfl) ?_
                    refine lv_iload hx hb dL_act_563 (lv_at hl 4 rfl) ?_
                    refine lv_aload hx hb dL_act_565 (lv_at hl 3 rfl) ?_
                    refine lv_iload hx hb dL_act_567 (lv_at hl 4 rfl) ?_
                    refine cx_iald (k := i) hx hb hK hP 37 1 pw_37 rfl (by omega) (by decide) dL_act_569 ?_
                    refine cx_top (y := ((R 23) i)) rfl ?_
                    refine cx_iast (k := i) hx hb hK hP (hD _ _) hS 36 1 pw_36 rfl (by omega) (by decide) pw_R22 dL_act_570 (fun H locs hP hS => ?_)
                    refine lv_iinc (k := 4) (v := (nI (i + 1))) (lv' := [(11, .int (nI (i + 1))), (10, .int (sn + 1)), (0, .ref (ad 0)), (5, .ref (ad 36)), (6, .ref (ad 37))]) hx hb dL_act_571 hl rfl (nI_add i 1) (by decide) rfl (fun ls hl => ?_)
                    refine lv_goto (tgt := 531) hx hb dL_act_574 (by decide) ?_
                    exact ih_531 (i + 1) (upd f i ((R 23) i)) (sn + 1) _ _ _ (by omega) (by omega) (up_at hf1 rfl) (un_up hf2) (cg_f hs (hf2 i (Nat.le_refl i)) c_550) (updP hP) hS (lv_sub hl [2, 3, 4, 1, 0] rfl)
          · have c_402 : ¬ (12 ≤ hw) := fun h => c_402 ((nI_leI (a := 12) (b := hw) (by omega) (by omega)).mpr h)
            refine lv_aload hx hb dL_act_405 (lv_at hl 7 rfl) ?_
            refine lv_iload hx hb dL_act_407 (lv_at hl 0 rfl) ?_
            refine cx_iald (k := k) hx hb hK hP 36 1 pw_36 rfl (hk) (by decide) dL_act_409 ?_
            refine cx_top (y := ((R 22) k)) rfl ?_
            refine lv_istore (lv' := [(10, .int ((R 22) k)), (9, .int (nI k)), (8, .int (nI hw)), (0, .ref (ad 0)), (1, .int x), (2, .int y), (3, .ref (ad 34)), (4, .ref (ad 35)), (5, .ref (ad 36)), (6, .ref (ad 37)), (7, .ref (ad 38))]) hx hb dL_act_410 hl (by decide) rfl (fun ls hl => ?_)
            refine lv_aload hx hb dL_act_412 (lv_at hl 8 rfl) ?_
            refine lv_iload hx hb dL_act_414 (lv_at hl 1 rfl) ?_
            refine lv_iload_n hx hb dL_act_416 rfl (lv_at hl 5 rfl) ?_
            refine lv_iconst (v := 3) hx hb dL_act_417 (by decide) ?_
            refine lv_ishr hx hb dL_act_418 ?_
            refine lv_iload_n hx hb dL_act_419 rfl (lv_at hl 5 rfl) ?_
            refine lv_bipush (v := 20) hx hb dL_act_420 (by decide) ?_
            refine lv_ishr hx hb dL_act_422 ?_
            refine lv_iconst (v := 3) hx hb dL_act_423 (by decide) ?_
            refine lv_iand hx hb dL_act_424 ?_
            refine lv_if_ne (tgt := 434) hx hb dL_act_425 (by decide) (fun c_425 => ?_) (fun c_425 => ?_)
            · refine lv_bipush (v := 101) hx hb dL_act_434 (by decide) ?_
              refine cx_ri (va_runS (As := [.int (y >>> (3 &&& 31)), .int 101]) (rest := [.int (nI k), .ref (ad 36)]) ⟨hx, hb, hml, hown, hts⟩ (c_L_low l  (y >>> (3 &&& 31)) 101 (by decide) (by decide)) (va_cwS 2 hts gL_act_L_low rfl rfl rfl (by decide +kernel) ⟨Nat.le_of_ble_eq_true rfl, Nat.le_of_ble_eq_true rfl⟩) ⟨pc_blind, (fun U hU hW => ⟨rfl, trivial⟩)⟩ rfl rfl hl.1 rfl (lv_room (Nat.le_of_ble_eq_true rfl)) dL_act_436 ⟨Nat.le_of_ble_eq_true rfl, Nat.le_of_ble_eq_true rfl⟩) hS hP (fun H locs hP hS => ?_)
              refine lv_iload_n hx hb dL_act_439 rfl (lv_at hl 5 rfl) ?_
              refine lv_bipush (v := 20) hx hb dL_act_440 (by decide) ?_
              refine lv_ishr hx hb dL_act_442 ?_
              refine lv_iconst (v := 3) hx hb dL_act_443 (by decide) ?_
              refine lv_iand hx hb dL_act_444 ?_
              refine lv_if_ne (tgt := 454) hx hb dL_act_445 (by decide) (fun c_445 => ?_) (fun c_445 => ?_)
              · refine lv_bipush (v := 50) hx hb dL_act_454 (by decide) ?_
                refine lv_isub hx hb dL_act_456 ?_
                obtain ⟨v, ev, hv⟩ : ∃ z, ((nI (loN (y >>> (3 &&& 31)) % 101)) - 50) = z ∧ outI z (-9999) 9999 = 0 := ⟨_, rfl, so_p (n := 101) (c := 50) (Nat.mod_lt _ (by decide)) (by decide) (by decide)⟩
                refine cx_top ev ?_
                refine cx_iast (k := k) hx hb hK hP (hD _ _) hS 36 1 pw_36 rfl (hk) (by decide) pw_R22 dL_act_457 (fun H locs hP hS => ?_)
                refine lv_aload_n hx hb dL_act_458 rfl (lv_at hl 3 rfl) ?_
                refine lv_iload hx hb dL_act_459 (lv_at hl 1 rfl) ?_
                refine lv_aload hx hb dL_act_461 (lv_at hl 8 rfl) ?_
                refine lv_iload hx hb dL_act_463 (lv_at hl 1 rfl) ?_
                refine cx_iald (k := k) hx hb hK hP 36 1 pw_36 rfl (hk) (by decide) dL_act_465 ?_
                refine cx_top (y := ((upd (R 22) k v) k)) rfl ?_
                refine cx_top (show ((upd (R 22) k v) k) = v from up_eq) ?_
                refine cx_wi (vx_runSW (As := [.ref (ad 0), .int (nI k), .int v]) (rest := []) ⟨hx, hb, hml, hown, hts⟩ (h_point l D T ad I (updR R 22 (upd (R 22) k v)) _ nx ct k v (AD_le hAD (by decide)) (hnx) (hct) (hI1) (hI2) (hk) (hv)) (vx_cwSW 3 hts gL_act_L_point rfl rfl rfl (by decide +kernel) ⟨Nat.le_of_ble_eq_true rfl, Nat.le_of_ble_eq_true rfl⟩) ⟨CB.blind, CB.pre (pw_c hP) hK hN rfl⟩ rfl rfl hl.1 rfl (lv_room (Nat.le_of_ble_eq_true rfl)) dL_act_466 ⟨Nat.le_of_ble_eq_true rfl, Nat.le_of_ble_eq_true rfl⟩) hS (cA_sub (fun j hj => cA_in (by omega)) (fun q hq => cA_new (Nat.le_trans hS.1 hq))) (cA_sub (fun j hj => cA_in (by omega)) (fun q hq => cA_new (Nat.le_trans hS.1 hq))) (fun u_466 H locs hu_466 hP1 hkk hS => ?_)
                refine cx_top (y := ((R 1) k)) rfl ?_
                have hP := pw_join hAD hP hkk hP1
                refine lv_iload hx hb dL_act_469 (lv_at hl 0 rfl) ?_
                refine lv_icmp_ne (tgt := 516) hx hb dL_act_471 (by decide) (fun c_471 => ?_) (fun c_471 => ?_)
                · exact absurd (congrFun h1 k) c_471
                · refine lv_aload_n hx hb dL_act_474 rfl (lv_at hl 3 rfl) ?_
                  refine lv_bipush (v := 8) hx hb dL_act_475 (by decide) ?_
                  refine lv_iconst (v := 0) hx hb dL_act_477 (by decide) ?_
                  refine cx_rm (vx_runSW (As := [.ref (ad 0), .int 8, .int 0]) (rest := []) ⟨hx, hb, hml, hown, hts⟩ (h_point_t1 l D T ad (pushI I nx ct) (mixR (updR (pushR (updR R 22 (upd (R 22) k v)) nx) 1 (upd ((R 1)) k v)) (updR R 22 (upd (R 22) k v))) hlt 8 0 (by decide)) (vx_cwSW 3 hts gL_act_L_point rfl rfl rfl (by decide +kernel) ⟨Nat.le_of_ble_eq_true rfl, Nat.le_of_ble_eq_true rfl⟩) ⟨XN.blind, XN.pre (pw_c hP) hK hN hXU hXZ hNc hS rfl⟩ rfl rfl hl.1 rfl (lv_room (Nat.le_of_ble_eq_true rfl)) dL_act_478 ⟨Nat.le_of_ble_eq_true rfl, Nat.le_of_ble_eq_true rfl⟩) hS (fun H locs hkk hS => ?_)
                  have hP := cx_keep hP hkk
                  refine W.widen (k := 1) (n := 6) (by decide) (by decide) ?_
                  refine lv_bipush (v := (-31)) hx hb dL_act_481 (by decide) ?_
                  refine lv_icmp_ne (tgt := 516) hx hb dL_act_483 (by decide) (fun c_483 => absurd c_483 (by decide)) (fun c_483 => ?_)
                  refine lv_aload_n hx hb dL_act_486 rfl (lv_at hl 3 rfl) ?_
                  refine lv_iconst (v := 0) hx hb dL_act_487 (by decide) ?_
                  refine lv_sipush (v := 10000) hx hb dL_act_488 (by decide) ?_
                  refine cx_rm (vx_runSW (As := [.ref (ad 0), .int 0, .int 10000]) (rest := []) ⟨hx, hb, hml, hown, hts⟩ (h_point_t2 l D T ad (pushI I nx ct) (mixR (updR (pushR (updR R 22 (upd (R 22) k v)) nx) 1 (upd ((R 1)) k v)) (updR R 22 (upd (R 22) k v))) hlt 0 10000 (by decide) (by decide)) (vx_cwSW 3 hts gL_act_L_point rfl rfl rfl (by decide +kernel) ⟨Nat.le_of_ble_eq_true rfl, Nat.le_of_ble_eq_true rfl⟩) ⟨XN.blind, XN.pre (pw_c hP) hK hN hXU hXZ hNc hS rfl⟩ rfl rfl hl.1 rfl (lv_room (Nat.le_of_ble_eq_true rfl)) dL_act_491 ⟨Nat.le_of_ble_eq_true rfl, Nat.le_of_ble_eq_true rfl⟩) hS (fun H locs hkk hS => ?_)
                  have hP := cx_keep hP hkk
                  refine W.widen (k := 2) (n := 12) (by decide) (by decide) ?_
                  refine lv_bipush (v := (-32)) hx hb dL_act_494 (by decide) ?_
                  refine lv_icmp_ne (tgt := 516) hx hb dL_act_496 (by decide) (fun c_496 => absurd c_496 (by decide)) (fun c_496 => ?_)
                  refine lv_aload_n hx hb dL_act_499 rfl (lv_at hl 3 rfl) ?_
                  refine lv_iconst (v := 0) hx hb dL_act_500 (by decide) ?_
                  refine lv_sipush (v := (-10000)) hx hb dL_act_501 (by decide) ?_
                  refine cx_rm (vx_runSW (As := [.ref (ad 0), .int 0, .int (-10000)]) (rest := []) ⟨hx, hb, hml, hown, hts⟩ (h_point_t2 l D T ad (pushI I nx ct) (mixR (updR (pushR (updR R 22 (upd (R 22) k v)) nx) 1 (upd ((R 1)) k v)) (updR R 22 (upd (R 22) k v))) hlt 0 (-10000) (by decide) (by decide)) (vx_cwSW 3 hts gL_act_L_point rfl rfl rfl (by decide +kernel) ⟨Nat.le_of_ble_eq_true rfl, Nat.le_of_ble_eq_true rfl⟩) ⟨XN.blind, XN.pre (pw_c hP) hK hN hXU hXZ hNc hS rfl⟩ rfl rfl hl.1 rfl (lv_room (Nat.le_of_ble_eq_true rfl)) dL_act_504 ⟨Nat.le_of_ble_eq_true rfl, Nat.le_of_ble_eq_true rfl⟩) hS (fun H locs hkk hS => ?_)
                  have hP := cx_keep hP hkk
                  refine W.widen (k := 3) (n := 18) (by decide) (by decide) ?_
                  refine lv_bipush (v := (-32)) hx hb dL_act_507 (by decide) ?_
                  refine lv_icmp_ne (tgt := 516) hx hb dL_act_509 (by decide) (fun c_509 => absurd c_509 (by decide)) (fun c_509 => ?_)
                  refine lv_iconst (v := 1) hx hb dL_act_512 (by decide) ?_
                  refine lv_goto (tgt := 517) hx hb dL_act_513 (by decide) ?_
                  have j0 : lm < 256 := hm
                  have j4 : (pushI I nx ct) 4 = nI lm := pushI_4.trans hI
                  have j1 : (pushI I nx ct) 1 = nI ((nx + 1) % 6) := pu_1
                  have j2 : (pushI I nx ct) 2 = nI (min (ct + 1) 6) := pu_2
                  have k0 : (updR (pushR (updR R 22 (upd (R 22) k v)) nx) 1 (upd ((R 1)) k v)) 0 = (updR R 22 (upd (R 22) k v)) 20 := by rw [ur_ne (by decide), pushR_k hnx (by omega), ur_ne (by decide), ur_ne (by decide), h0]
                  have k1 : (updR (pushR (updR R 22 (upd (R 22) k v)) nx) 1 (upd ((R 1)) k v)) 1 = (updR R 22 (upd (R 22) k v)) 22 := by rw [ur_eq, ur_eq, h1]
                  have kb : (updR R 22 (upd (R 22) k v)) 21 = lbI lm := by rw [ur_ne (by decide)]; exact hb1
                  have j5 : (pushI I nx ct) 5 = (updR R 22 (upd (R 22) k v)) 24 0 := by rw [ur_ne (by decide)]; exact pushI_5.trans h5
                  have ka : BdA ((updR R 22 (upd (R 22) k v)) 20) := by rw [ur_ne (by decide)]; exact hbd
                  have kp : BdP ((updR R 22 (upd (R 22) k v)) 22) := by rw [ur_eq]; exact bp_st hbp hv
                  exact W.zret (v := 1) hx hb hr (rfl) (fun t ht hW => ⟨⟨1, ((pushI I nx ct), (mixR (updR (pushR (updR R 22 (upd (R 22) k v)) nx) 1 (upd ((R 1)) k v)) (updR R 22 (upd (R 22) k v))), lm, (nx + 1) % 6, min (ct + 1) 6), rfl, ⟨rfl, jl_mix j0 j4 j1 j2 k0 k1 kb j5 ka kp⟩, by show va_P _ _ _ _; rw [ht]; exact hP⟩, hS.F ht⟩) hS.2.2 dL_act_517
              · exact absurd c_445 c_425
            · refine lv_sipush (v := 19999) hx hb dL_act_428 (by decide) ?_
              refine lv_goto (tgt := 436) hx hb dL_act_431 (by decide) ?_
              refine cx_ri (va_runS (As := [.int (y >>> (3 &&& 31)), .int 19999]) (rest := [.int (nI k), .ref (ad 36)]) ⟨hx, hb, hml, hown, hts⟩ (c_L_low l  (y >>> (3 &&& 31)) 19999 (by decide) (by decide)) (va_cwS 2 hts gL_act_L_low rfl rfl rfl (by decide +kernel) ⟨Nat.le_of_ble_eq_true rfl, Nat.le_of_ble_eq_true rfl⟩) ⟨pc_blind, (fun U hU hW => ⟨rfl, trivial⟩)⟩ rfl rfl hl.1 rfl (lv_room (Nat.le_of_ble_eq_true rfl)) dL_act_436 ⟨Nat.le_of_ble_eq_true rfl, Nat.le_of_ble_eq_true rfl⟩) hS hP (fun H locs hP hS => ?_)
              refine lv_iload_n hx hb dL_act_439 rfl (lv_at hl 5 rfl) ?_
              refine lv_bipush (v := 20) hx hb dL_act_440 (by decide) ?_
              refine lv_ishr hx hb dL_act_442 ?_
              refine lv_iconst (v := 3) hx hb dL_act_443 (by decide) ?_
              refine lv_iand hx hb dL_act_444 ?_
              refine lv_if_ne (tgt := 454) hx hb dL_act_445 (by decide) (fun c_445 => ?_) (fun c_445 => ?_)
              · exact absurd c_425 c_445
              · refine lv_sipush (v := 9999) hx hb dL_act_448 (by decide) ?_
                refine lv_goto (tgt := 456) hx hb dL_act_451 (by decide) ?_
                refine lv_isub hx hb dL_act_456 ?_
                obtain ⟨v, ev, hv⟩ : ∃ z, ((nI (loN (y >>> (3 &&& 31)) % 19999)) - 9999) = z ∧ outI z (-9999) 9999 = 0 := ⟨_, rfl, so_p (n := 19999) (c := 9999) (Nat.mod_lt _ (by decide)) (by decide) (by decide)⟩
                refine cx_top ev ?_
                refine cx_iast (k := k) hx hb hK hP (hD _ _) hS 36 1 pw_36 rfl (hk) (by decide) pw_R22 dL_act_457 (fun H locs hP hS => ?_)
                refine lv_aload_n hx hb dL_act_458 rfl (lv_at hl 3 rfl) ?_
                refine lv_iload hx hb dL_act_459 (lv_at hl 1 rfl) ?_
                refine lv_aload hx hb dL_act_461 (lv_at hl 8 rfl) ?_
                refine lv_iload hx hb dL_act_463 (lv_at hl 1 rfl) ?_
                refine cx_iald (k := k) hx hb hK hP 36 1 pw_36 rfl (hk) (by decide) dL_act_465 ?_
                refine cx_top (y := ((upd (R 22) k v) k)) rfl ?_
                refine cx_top (show ((upd (R 22) k v) k) = v from up_eq) ?_
                refine cx_wi (vx_runSW (As := [.ref (ad 0), .int (nI k), .int v]) (rest := []) ⟨hx, hb, hml, hown, hts⟩ (h_point l D T ad I (updR R 22 (upd (R 22) k v)) _ nx ct k v (AD_le hAD (by decide)) (hnx) (hct) (hI1) (hI2) (hk) (hv)) (vx_cwSW 3 hts gL_act_L_point rfl rfl rfl (by decide +kernel) ⟨Nat.le_of_ble_eq_true rfl, Nat.le_of_ble_eq_true rfl⟩) ⟨CB.blind, CB.pre (pw_c hP) hK hN rfl⟩ rfl rfl hl.1 rfl (lv_room (Nat.le_of_ble_eq_true rfl)) dL_act_466 ⟨Nat.le_of_ble_eq_true rfl, Nat.le_of_ble_eq_true rfl⟩) hS (cA_sub (fun j hj => cA_in (by omega)) (fun q hq => cA_new (Nat.le_trans hS.1 hq))) (cA_sub (fun j hj => cA_in (by omega)) (fun q hq => cA_new (Nat.le_trans hS.1 hq))) (fun u_466 H locs hu_466 hP1 hkk hS => ?_)
                refine cx_top (y := ((R 1) k)) rfl ?_
                have hP := pw_join hAD hP hkk hP1
                refine lv_iload hx hb dL_act_469 (lv_at hl 0 rfl) ?_
                refine lv_icmp_ne (tgt := 516) hx hb dL_act_471 (by decide) (fun c_471 => ?_) (fun c_471 => ?_)
                · exact absurd (congrFun h1 k) c_471
                · refine lv_aload_n hx hb dL_act_474 rfl (lv_at hl 3 rfl) ?_
                  refine lv_bipush (v := 8) hx hb dL_act_475 (by decide) ?_
                  refine lv_iconst (v := 0) hx hb dL_act_477 (by decide) ?_
                  refine cx_rm (vx_runSW (As := [.ref (ad 0), .int 8, .int 0]) (rest := []) ⟨hx, hb, hml, hown, hts⟩ (h_point_t1 l D T ad (pushI I nx ct) (mixR (updR (pushR (updR R 22 (upd (R 22) k v)) nx) 1 (upd ((R 1)) k v)) (updR R 22 (upd (R 22) k v))) hlt 8 0 (by decide)) (vx_cwSW 3 hts gL_act_L_point rfl rfl rfl (by decide +kernel) ⟨Nat.le_of_ble_eq_true rfl, Nat.le_of_ble_eq_true rfl⟩) ⟨XN.blind, XN.pre (pw_c hP) hK hN hXU hXZ hNc hS rfl⟩ rfl rfl hl.1 rfl (lv_room (Nat.le_of_ble_eq_true rfl)) dL_act_478 ⟨Nat.le_of_ble_eq_true rfl, Nat.le_of_ble_eq_true rfl⟩) hS (fun H locs hkk hS => ?_)
                  have hP := cx_keep hP hkk
                  refine W.widen (k := 1) (n := 6) (by decide) (by decide) ?_
                  refine lv_bipush (v := (-31)) hx hb dL_act_481 (by decide) ?_
                  refine lv_icmp_ne (tgt := 516) hx hb dL_act_483 (by decide) (fun c_483 => absurd c_483 (by decide)) (fun c_483 => ?_)
                  refine lv_aload_n hx hb dL_act_486 rfl (lv_at hl 3 rfl) ?_
                  refine lv_iconst (v := 0) hx hb dL_act_487 (by decide) ?_
                  refine lv_sipush (v := 10000) hx hb dL_act_488 (by decide) ?_
                  refine cx_rm (vx_runSW (As := [.ref (ad 0), .int 0, .int 10000]) (rest := []) ⟨hx, hb, hml, hown, hts⟩ (h_point_t2 l D T ad (pushI I nx ct) (mixR (updR (pushR (updR R 22 (upd (R 22) k v)) nx) 1 (upd ((R 1)) k v)) (updR R 22 (upd (R 22) k v))) hlt 0 10000 (by decide) (by decide)) (vx_cwSW 3 hts gL_act_L_point rfl rfl rfl (by decide +kernel) ⟨Nat.le_of_ble_eq_true rfl, Nat.le_of_ble_eq_true rfl⟩) ⟨XN.blind, XN.pre (pw_c hP) hK hN hXU hXZ hNc hS rfl⟩ rfl rfl hl.1 rfl (lv_room (Nat.le_of_ble_eq_true rfl)) dL_act_491 ⟨Nat.le_of_ble_eq_true rfl, Nat.le_of_ble_eq_true rfl⟩) hS (fun H locs hkk hS => ?_)
                  have hP := cx_keep hP hkk
                  refine W.widen (k := 2) (n := 12) (by decide) (by decide) ?_
                  refine lv_bipush (v := (-32)) hx hb dL_act_494 (by decide) ?_
                  refine lv_icmp_ne (tgt := 516) hx hb dL_act_496 (by decide) (fun c_496 => absurd c_496 (by decide)) (fun c_496 => ?_)
                  refine lv_aload_n hx hb dL_act_499 rfl (lv_at hl 3 rfl) ?_
                  refine lv_iconst (v := 0) hx hb dL_act_500 (by decide) ?_
                  refine lv_sipush (v := (-10000)) hx hb dL_act_501 (by decide) ?_
                  refine cx_rm (vx_runSW (As := [.ref (ad 0), .int 0, .int (-10000)]) (rest := []) ⟨hx, hb, hml, hown, hts⟩ (h_point_t2 l D T ad (pushI I nx ct) (mixR (updR (pushR (updR R 22 (upd (R 22) k v)) nx) 1 (upd ((R 1)) k v)) (updR R 22 (upd (R 22) k v))) hlt 0 (-10000) (by decide) (by decide)) (vx_cwSW 3 hts gL_act_L_point rfl rfl rfl (by decide +kernel) ⟨Nat.le_of_ble_eq_true rfl, Nat.le_of_ble_eq_true rfl⟩) ⟨XN.blind, XN.pre (pw_c hP) hK hN hXU hXZ hNc hS rfl⟩ rfl rfl hl.1 rfl (lv_room (Nat.le_of_ble_eq_true rfl)) dL_act_504 ⟨Nat.le_of_ble_eq_true rfl, Nat.le_of_ble_eq_true rfl⟩) hS (fun H locs hkk hS => ?_)
                  have hP := cx_keep hP hkk
                  refine W.widen (k := 3) (n := 18) (by decide) (by decide) ?_
                  refine lv_bipush (v := (-32)) hx hb dL_act_507 (by decide) ?_
                  refine lv_icmp_ne (tgt := 516) hx hb dL_act_509 (by decide) (fun c_509 => absurd c_509 (by decide)) (fun c_509 => ?_)
                  refine lv_iconst (v := 1) hx hb dL_act_512 (by decide) ?_
                  refine lv_goto (tgt := 517) hx hb dL_act_513 (by decide) ?_
                  have j0 : lm < 256 := hm
                  have j4 : (pushI I nx ct) 4 = nI lm := pushI_4.trans hI
                  have j1 : (pushI I nx ct) 1 = nI ((nx + 1) % 6) := pu_1
                  have j2 : (pushI I nx ct) 2 = nI (min (ct + 1) 6) := pu_2
                  have k0 : (updR (pushR (updR R 22 (upd (R 22) k v)) nx) 1 (upd ((R 1)) k v)) 0 = (updR R 22 (upd (R 22) k v)) 20 := by rw [ur_ne (by decide), pushR_k hnx (by omega), ur_ne (by decide), ur_ne (by decide), h0]
                  have k1 : (updR (pushR (updR R 22 (upd (R 22) k v)) nx) 1 (upd ((R 1)) k v)) 1 = (updR R 22 (upd (R 22) k v)) 22 := by rw [ur_eq, ur_eq, h1]
                  have kb : (updR R 22 (upd (R 22) k v)) 21 = lbI lm := by rw [ur_ne (by decide)]; exact hb1
                  have j5 : (pushI I nx ct) 5 = (updR R 22 (upd (R 22) k v)) 24 0 := by rw [ur_ne (by decide)]; exact pushI_5.trans h5
                  have ka : BdA ((updR R 22 (upd (R 22) k v)) 20) := by rw [ur_ne (by decide)]; exact hbd
                  have kp : BdP ((updR R 22 (upd (R 22) k v)) 22) := by rw [ur_eq]; exact bp_st hbp hv
                  exact W.zret (v := 1) hx hb hr (rfl) (fun t ht hW => ⟨⟨1, ((pushI I nx ct), (mixR (updR (pushR (updR R 22 (upd (R 22) k v)) nx) 1 (upd ((R 1)) k v)) (updR R 22 (upd (R 22) k v))), lm, (nx + 1) % 6, min (ct + 1) 6), rfl, ⟨rfl, jl_mix j0 j4 j1 j2 k0 k1 kb j5 ka kp⟩, by show va_P _ _ _ _; rw [ht]; exact hP⟩, hS.F ht⟩) hS.2.2 dL_act_517
        · have c_280 : hw = 8 := (nI_eq (a := hw) (b := 8) (by omega) (by omega)).mp c_280
          refine lv_iconst (v := 1) hx hb dL_act_283 (by decide) ?_
          refine lv_iload_n hx hb dL_act_284 rfl (lv_at hl 4 rfl) ?_
          refine lv_iconst (v := 3) hx hb dL_act_285 (by decide) ?_
          refine lv_ishr hx hb dL_act_286 ?_
          refine lv_iload_n hx hb dL_act_287 rfl (lv_at hl 4 rfl) ?_
          refine lv_bipush (v := 20) hx hb dL_act_288 (by decide) ?_
          refine lv_ishr hx hb dL_act_290 ?_
          refine lv_iconst (v := 1) hx hb dL_act_291 (by decide) ?_
          refine lv_iand hx hb dL_act_292 ?_
          refine lv_if_ne (tgt := 301) hx hb dL_act_293 (by decide) (fun c_293 => ?_) (fun c_293 => ?_)
          · refine lv_bipush (v := 99) hx hb dL_act_301 (by decide) ?_
            refine cx_ri (va_runS (As := [.int (y >>> (3 &&& 31)), .int 99]) (rest := [.int 1]) ⟨hx, hb, hml, hown, hts⟩ (c_L_low l  (y >>> (3 &&& 31)) 99 (by decide) (by decide)) (va_cwS 2 hts gL_act_L_low rfl rfl rfl (by decide +kernel) ⟨Nat.le_of_ble_eq_true rfl, Nat.le_of_ble_eq_true rfl⟩) ⟨pc_blind, (fun U hU hW => ⟨rfl, trivial⟩)⟩ rfl rfl hl.1 rfl (lv_room (Nat.le_of_ble_eq_true rfl)) dL_act_303 ⟨Nat.le_of_ble_eq_true rfl, Nat.le_of_ble_eq_true rfl⟩) hS hP (fun H locs hP hS => ?_)
            refine lv_iadd hx hb dL_act_306 ?_
            refine cx_top (nI_add 1 (loN (y >>> (3 &&& 31)) % 99)) ?_
            obtain ⟨le, ele, hle⟩ : ∃ z : Nat, 1 + (loN (y >>> (3 &&& 31)) % 99) = z ∧ outI (nI z) 1 99 = 0 := ⟨_, rfl, so_d (by omega) (by have := Nat.mod_lt (loN (y >>> (3 &&& 31))) (show 0 < 99 by decide); omega)⟩
            refine cx_top (congrArg nI ele) ?_
            refine lv_istore (lv' := [(10, .int (nI le)), (9, .int (nI k)), (8, .int (nI hw)), (0, .ref (ad 0)), (1, .int x), (2, .int y), (3, .ref (ad 34)), (4, .ref (ad 35)), (5, .ref (ad 36)), (6, .ref (ad 37)), (7, .ref (ad 38))]) hx hb dL_act_307 hl (by decide) rfl (fun ls hl => ?_)
            refine lv_aload_n hx hb dL_act_309 rfl (lv_at hl 6 rfl) ?_
            refine cx_ri (va_runS (As := [.ref (ad 34)]) (rest := []) ⟨hx, hb, hml, hown, hts⟩ (c_L_turning l D T (fun _ => ad 34) (fun _ => 0) (fun _ => (R 20))) (va_cwS 1 hts gL_act_L_turning rfl rfl rfl (by decide +kernel) ⟨Nat.le_of_ble_eq_true rfl, Nat.le_of_ble_eq_true rfl⟩) ⟨YR.blind, YR.pre (hw_of (I := fun _ => 0) hP pw_34) hK rfl⟩ rfl rfl hl.1 rfl (lv_room (Nat.le_of_ble_eq_true rfl)) dL_act_310 ⟨Nat.le_of_ble_eq_true rfl, Nat.le_of_ble_eq_true rfl⟩) hS hP (fun H locs hP hS => ?_)
            refine lv_istore (lv' := [(11, .int (cnS ((R 20)) 8)), (10, .int (nI le)), (9, .int (nI k)), (8, .int (nI hw)), (0, .ref (ad 0)), (1, .int x), (2, .int y), (3, .ref (ad 34)), (4, .ref (ad 35)), (5, .ref (ad 36)), (6, .ref (ad 37)), (7, .ref (ad 38))]) hx hb dL_act_313 hl (by decide) rfl (fun ls hl => ?_)
            refine lv_iconst (v := 0) hx hb dL_act_315 (by decide) ?_
            refine lv_istore (lv' := [(12, .int 0), (11, .int (cnS ((R 20)) 8)), (10, .int (nI le)), (9, .int (nI k)), (8, .int (nI hw)), (0, .ref (ad 0)), (1, .int x), (2, .int y), (3, .ref (ad 34)), (4, .ref (ad 35)), (5, .ref (ad 36)), (6, .ref (ad 37)), (7, .ref (ad 38))]) hx hb dL_act_316 hl (by decide) rfl (fun ls hl => ?_)
            suffices ih_318 : ∀ (fu : Nat) (i : Nat) (f : Nat → Int32) (H : Heap) (locs : List Loc) (ls : Array Slot), 8 - i < fu → (i ≤ 8) → (∀ j, j < i → f j = doF (R 20) (nI le) j) → (∀ j, i ≤ j → f j = R 20 j) → va_P D vwCl (pw T ad I (updR R 20 f)) H →  va_S (cA 39 ad s.heap.size) s.heap H locs → lv_has ls 14 [(0, .ref (ad 0)), (3, .ref (ad 34)), (10, .int (nI le)), (11, .int (cnS (R 20) 8)), (12, .int (nI i))] → W p l e (headSpec wsL_act ({ frames := 8, cells := 3, slots := 18, locals := 129 })).room s m ([.ref (ad 0), .int x, .int y, .ref (ad 34), .ref (ad 35), .ref (ad 36), .ref (ad 37), .ref (ad 38)] : List Value).toArray below meth c H locs 0 0 (MQ below (va_Qi (fun r (u : (Nat → Int32) × (Nat → Nat → Int32) × Nat × Nat × Nat) => r = 1 ∧ JL u.2.2.1 u.2.2.2.1 u.2.2.2.2 u.1 u.2.1) (fun (u : (Nat → Int32) × (Nat → Nat → Int32) × Nat × Nat × Nat) t => va_P D vwCl (pw T ad u.1 u.2.1) t.heap) (cA 39 ad s.heap.size)) ([.ref (ad 0), .int x, .int y, .ref (ad 34), .ref (ad 35), .ref (ad 36), .ref (ad 37), .ref (ad 38)] : List Value).toArray s 3 18 (cA 39 ad s.heap.size)) (F0 m 318 ls []) from
              ih_318 _ 0 (R 20) _ _ _ (Nat.lt_succ_self _) (by omega) (fun j h => absurd h (Nat.not_lt_zero j)) (fun j _ => rfl) (selfP hP) hS (lv_sub hl [5, 8, 2, 1, 0] rfl)
            intro fu
            induction fu with
            | zero => intro i f H locs ls hfu; exact absurd hfu (Nat.not_lt_zero _)
            | succ fu ih_318 =>
              intro i f H locs ls hfu hi hf1 hf2 hP hS hl
              refine lv_iload hx hb dL_act_318 (lv_at hl 4 rfl) ?_
              refine lv_bipush (v := 8) hx hb dL_act_320 (by decide) ?_
              refine lv_icmp_ge (tgt := 355) hx hb dL_act_322 (by decide) (fun c_322 => ?_) (fun c_322 => ?_)
              · have c_322 : 8 ≤ i := (nI_leI (a := 8) (b := i) (by omega) (by omega)).mp c_322
                obtain rfl : i = 8 := by omega
                have hP := updP (cx_re hP pw_34 hf1 pw_R20)
                refine lv_aload_n hx hb dL_act_355 rfl (lv_at hl 0 rfl) ?_
                refine lv_iload hx hb dL_act_356 (lv_at hl 2 rfl) ?_
                refine cx_wi (vx_runSW (As := [.ref (ad 0), .int (nI le)]) (rest := []) ⟨hx, hb, hml, hown, hts⟩ (h_drop l D T ad I (updR R 20 (doF (R 20) (nI le))) _ nx ct (nI le) (AD_le hAD (by decide)) (hnx) (hct) (hI1) (hI2) (hle)) (vx_cwSW 2 hts gL_act_L_drop rfl rfl rfl (by decide +kernel) ⟨Nat.le_of_ble_eq_true rfl, Nat.le_of_ble_eq_true rfl⟩) ⟨CB.blind, CB.pre (pw_c hP) hK hN rfl⟩ rfl rfl hl.1 rfl (lv_room (Nat.le_of_ble_eq_true rfl)) dL_act_358 ⟨Nat.le_of_ble_eq_true rfl, Nat.le_of_ble_eq_true rfl⟩) hS (cA_sub (fun j hj => cA_in (by omega)) (fun q hq => cA_new (Nat.le_trans hS.1 hq))) (cA_sub (fun j hj => cA_in (by omega)) (fun q hq => cA_new (Nat.le_trans hS.1 hq))) (fun u_358 H locs hu_358 hP1 hkk hS => ?_)
                refine cx_top (y := (doS ((R 0)) (nI le) 8)) rfl ?_
                have hP := pw_join hAD hP hkk hP1
                refine lv_iload hx hb dL_act_361 (lv_at hl 3 rfl) ?_
                refine lv_aload_n hx hb dL_act_363 rfl (lv_at hl 1 rfl) ?_
                refine cx_ri (va_runS (As := [.ref (ad 34)]) (rest := [.int (cnS (R 20) 8), .int (doS ((R 0)) (nI le) 8)]) ⟨hx, hb, hml, hown, hts⟩ (c_L_turning l D T (fun _ => ad 34) (fun _ => 0) (fun _ => (doF (R 20) (nI le)))) (va_cwS 1 hts gL_act_L_turning rfl rfl rfl (by decide +kernel) ⟨Nat.le_of_ble_eq_true rfl, Nat.le_of_ble_eq_true rfl⟩) ⟨YR.blind, YR.pre (hw_of (I := fun _ => 0) hP pw_34) hK rfl⟩ rfl rfl hl.1 rfl (lv_room (Nat.le_of_ble_eq_true rfl)) dL_act_364 ⟨Nat.le_of_ble_eq_true rfl, Nat.le_of_ble_eq_true rfl⟩) hS hP (fun H locs hP hS => ?_)
                refine lv_isub hx hb dL_act_367 ?_
                refine lv_icmp_ne (tgt := 396) hx hb dL_act_368 (by decide) (fun c_368 => ?_) (fun c_368 => ?_)
                · exact absurd (show doS (R 0) (nI le) 8 = _ from by rw [h0]; exact (do_dif _ _).symm) c_368
                · refine lv_aload_n hx hb dL_act_371 rfl (lv_at hl 0 rfl) ?_
                  refine lv_iconst (v := 0) hx hb dL_act_372 (by decide) ?_
                  refine cx_rm (vx_runSW (As := [.ref (ad 0), .int 0]) (rest := []) ⟨hx, hb, hml, hown, hts⟩ (h_drop_t1 l D T ad (pushI I nx ct) (mixR (updR (pushR (updR R 20 (doF (R 20) (nI le))) nx) 0 (doF ((R 0)) (nI le))) (updR R 20 (doF (R 20) (nI le)))) hlt 0 (by decide)) (vx_cwSW 2 hts gL_act_L_drop rfl rfl rfl (by decide +kernel) ⟨Nat.le_of_ble_eq_true rfl, Nat.le_of_ble_eq_true rfl⟩) ⟨XN.blind, XN.pre (pw_c hP) hK hN hXU hXZ hNc hS rfl⟩ rfl rfl hl.1 rfl (lv_room (Nat.le_of_ble_eq_true rfl)) dL_act_373 ⟨Nat.le_of_ble_eq_true rfl, Nat.le_of_ble_eq_true rfl⟩) hS (fun H locs hkk hS => ?_)
                  have hP := cx_keep hP hkk
                  refine W.widen (k := 1) (n := 6) (by decide) (by decide) ?_
                  refine lv_bipush (v := (-32)) hx hb dL_act_376 (by decide) ?_
                  refine lv_icmp_ne (tgt := 396) hx hb dL_act_378 (by decide) (fun c_378 => absurd c_378 (by decide)) (fun c_378 => ?_)
                  refine lv_aload_n hx hb dL_act_381 rfl (lv_at hl 0 rfl) ?_
                  refine lv_bipush (v := 100) hx hb dL_act_382 (by decide) ?_
                  refine cx_rm (vx_runSW (As := [.ref (ad 0), .int 100]) (rest := []) ⟨hx, hb, hml, hown, hts⟩ (h_drop_t1 l D T ad (pushI I nx ct) (mixR (updR (pushR (updR R 20 (doF (R 20) (nI le))) nx) 0 (doF ((R 0)) (nI le))) (updR R 20 (doF (R 20) (nI le)))) hlt 100 (by decide)) (vx_cwSW 2 hts gL_act_L_drop rfl rfl rfl (by decide +kernel) ⟨Nat.le_of_ble_eq_true rfl, Nat.le_of_ble_eq_true rfl⟩) ⟨XN.blind, XN.pre (pw_c hP) hK hN hXU hXZ hNc hS rfl⟩ rfl rfl hl.1 rfl (lv_room (Nat.le_of_ble_eq_true rfl)) dL_act_384 ⟨Nat.le_of_ble_eq_true rfl, Nat.le_of_ble_eq_true rfl⟩) hS (fun H locs hkk hS => ?_)
                  have hP := cx_keep hP hkk
                  refine W.widen (k := 2) (n := 12) (by decide) (by decide) ?_
                  refine lv_bipush (v := (-32)) hx hb dL_act_387 (by decide) ?_
                  refine lv_icmp_ne (tgt := 396) hx hb dL_act_389 (by decide) (fun c_389 => absurd c_389 (by decide)) (fun c_389 => ?_)
                  refine lv_iconst (v := 1) hx hb dL_act_392 (by decide) ?_
                  refine lv_goto (tgt := 397) hx hb dL_act_393 (by decide) ?_
                  have j0 : lm < 256 := hm
                  have j4 : (pushI I nx ct) 4 = nI lm := pushI_4.trans hI
                  have j1 : (pushI I nx ct) 1 = nI ((nx + 1) % 6) := pu_1
                  have j2 : (pushI I nx ct) 2 = nI (min (ct + 1) 6) := pu_2
                  have k0 : (updR (pushR (updR R 20 (doF (R 20) (nI le))) nx) 0 (doF ((R 0)) (nI le))) 0 = (updR R 20 (doF (R 20) (nI le))) 20 := by rw [ur_eq, ur_eq, h0]
                  have k1 : (updR (pushR (updR R 20 (doF (R 20) (nI le))) nx) 0 (doF ((R 0)) (nI le))) 1 = (updR R 20 (doF (R 20) (nI le))) 22 := by rw [ur_ne (by decide), pushR_k hnx (by omega), ur_ne (by decide), ur_ne (by decide), h1]
                  have kb : (updR R 20 (doF (R 20) (nI le))) 21 = lbI lm := by rw [ur_ne (by decide)]; exact hb1
                  have j5 : (pushI I nx ct) 5 = (updR R 20 (doF (R 20) (nI le))) 24 0 := by rw [ur_ne (by decide)]; exact pushI_5.trans h5
                  have ka : BdA ((updR R 20 (doF (R 20) (nI le))) 20) := by rw [ur_eq]; exact bd_do hbd _
                  have kp : BdP ((updR R 20 (doF (R 20) (nI le))) 22) := by rw [ur_ne (by decide)]; exact hbp
                  refine W.widen (k := 3) (n := 18) (by decide) (by decide) ?_
                  exact W.zret (v := 1) hx hb hr (rfl) (fun t ht hW => ⟨⟨1, ((pushI I nx ct), (mixR (updR (pushR (updR R 20 (doF (R 20) (nI le))) nx) 0 (doF ((R 0)) (nI le))) (updR R 20 (doF (R 20) (nI le)))), lm, (nx + 1) % 6, min (ct + 1) 6), rfl, ⟨rfl, jl_mix j0 j4 j1 j2 k0 k1 kb j5 ka kp⟩, by show va_P _ _ _ _; rw [ht]; exact hP⟩, hS.F ht⟩) hS.2.2 dL_act_397
              · have c_322 : ¬ (8 ≤ i) := fun h => c_322 ((nI_leI (a := 8) (b := i) (by omega) (by omega)).mpr h)
                refine lv_aload_n hx hb dL_act_325 rfl (lv_at hl 1 rfl) ?_
                refine lv_iload hx hb dL_act_326 (lv_at hl 4 rfl) ?_
                refine lv_aload_n hx hb dL_act_328 rfl (lv_at hl 1 rfl) ?_
                refine lv_iload hx hb dL_act_329 (lv_at hl 4 rfl) ?_
                refine cx_iald (k := i) hx hb hK hP 34 1 pw_34 rfl (by omega) (by decide) dL_act_331 ?_
                refine cx_top (y := (f i)) rfl ?_
                refine cx_ri (va_runS (As := [.int (f i)]) (rest := [.int (nI i), .ref (ad 34)]) ⟨hx, hb, hml, hown, hts⟩ (c_L_amount l  (f i)) (va_cwS 1 hts gL_act_L_amount rfl rfl rfl (by decide +kernel) ⟨Nat.le_of_ble_eq_true rfl, Nat.le_of_ble_eq_true rfl⟩) ⟨pc_blind, (fun U hU hW => ⟨rfl, trivial⟩)⟩ rfl rfl hl.1 rfl (lv_room (Nat.le_of_ble_eq_true rfl)) dL_act_332 ⟨Nat.le_of_ble_eq_true rfl, Nat.le_of_ble_eq_true rfl⟩) hS hP (fun H locs hP hS => ?_)
                refine lv_iload hx hb dL_act_335 (lv_at hl 2 rfl) ?_
                refine lv_icmp_lt (tgt := 347) hx hb dL_act_337 (by decide) (fun c_337 => ?_) (fun c_337 => ?_)
                · refine lv_iconst (v := 0) hx hb dL_act_347 (by decide) ?_
                  refine cx_iast (k := i) hx hb hK hP (hD _ _) hS 34 1 pw_34 rfl (by omega) (by decide) pw_R20 dL_act_348 (fun H locs hP hS => ?_)
                  refine lv_iinc (k := 4) (v := (nI (i + 1))) (lv' := [(12, .int (nI (i + 1))), (0, .ref (ad 0)), (3, .ref (ad 34)), (10, .int (nI le)), (11, .int (cnS (R 20) 8))]) hx hb dL_act_349 hl rfl (nI_add i 1) (by decide) rfl (fun ls hl => ?_)
                  refine lv_goto (tgt := 318) hx hb dL_act_352 (by decide) ?_
                  exact ih_318 (i + 1) (upd f i 0) _ _ _ (by omega) (by omega) (up_at hf1 (dl_t (hf2 i (Nat.le_refl i)) c_337)) (un_up hf2) (updP hP) hS (lv_sub hl [1, 2, 3, 4, 0] rfl)
                · refine lv_aload_n hx hb dL_act_340 rfl (lv_at hl 1 rfl) ?_
                  refine lv_iload hx hb dL_act_341 (lv_at hl 4 rfl) ?_
                  refine cx_iald (k := i) hx hb hK hP 34 1 pw_34 rfl (by omega) (by decide) dL_act_343 ?_
                  refine cx_top (y := (f i)) rfl ?_
                  refine lv_goto (tgt := 348) hx hb dL_act_344 (by decide) ?_
                  refine cx_iast (k := i) hx hb hK hP (hD _ _) hS 34 1 pw_34 rfl (by omega) (by decide) pw_R20 dL_act_348 (fun H locs hP hS => ?_)
                  refine lv_iinc (k := 4) (v := (nI (i + 1))) (lv' := [(12, .int (nI (i + 1))), (0, .ref (ad 0)), (3, .ref (ad 34)), (10, .int (nI le)), (11, .int (cnS (R 20) 8))]) hx hb dL_act_349 hl rfl (nI_add i 1) (by decide) rfl (fun ls hl => ?_)
                  refine lv_goto (tgt := 318) hx hb dL_act_352 (by decide) ?_
                  exact ih_318 (i + 1) (upd f i (f i)) _ _ _ (by omega) (by omega) (up_at hf1 (dl_f (hf2 i (Nat.le_refl i)) c_337)) (un_up hf2) (updP hP) hS (lv_sub hl [1, 2, 3, 4, 0] rfl)
          · refine lv_bipush (v := 12) hx hb dL_act_296 (by decide) ?_
            refine lv_goto (tgt := 303) hx hb dL_act_298 (by decide) ?_
            refine cx_ri (va_runS (As := [.int (y >>> (3 &&& 31)), .int 12]) (rest := [.int 1]) ⟨hx, hb, hml, hown, hts⟩ (c_L_low l  (y >>> (3 &&& 31)) 12 (by decide) (by decide)) (va_cwS 2 hts gL_act_L_low rfl rfl rfl (by decide +kernel) ⟨Nat.le_of_ble_eq_true rfl, Nat.le_of_ble_eq_true rfl⟩) ⟨pc_blind, (fun U hU hW => ⟨rfl, trivial⟩)⟩ rfl rfl hl.1 rfl (lv_room (Nat.le_of_ble_eq_true rfl)) dL_act_303 ⟨Nat.le_of_ble_eq_true rfl, Nat.le_of_ble_eq_true rfl⟩) hS hP (fun H locs hP hS => ?_)
            refine lv_iadd hx hb dL_act_306 ?_
            refine cx_top (nI_add 1 (loN (y >>> (3 &&& 31)) % 12)) ?_
            obtain ⟨le, ele, hle⟩ : ∃ z : Nat, 1 + (loN (y >>> (3 &&& 31)) % 12) = z ∧ outI (nI z) 1 99 = 0 := ⟨_, rfl, so_d (by omega) (by have := Nat.mod_lt (loN (y >>> (3 &&& 31))) (show 0 < 12 by decide); omega)⟩
            refine cx_top (congrArg nI ele) ?_
            refine lv_istore (lv' := [(10, .int (nI le)), (9, .int (nI k)), (8, .int (nI hw)), (0, .ref (ad 0)), (1, .int x), (2, .int y), (3, .ref (ad 34)), (4, .ref (ad 35)), (5, .ref (ad 36)), (6, .ref (ad 37)), (7, .ref (ad 38))]) hx hb dL_act_307 hl (by decide) rfl (fun ls hl => ?_)
            refine lv_aload_n hx hb dL_act_309 rfl (lv_at hl 6 rfl) ?_
            refine cx_ri (va_runS (As := [.ref (ad 34)]) (rest := []) ⟨hx, hb, hml, hown, hts⟩ (c_L_turning l D T (fun _ => ad 34) (fun _ => 0) (fun _ => (R 20))) (va_cwS 1 hts gL_act_L_turning rfl rfl rfl (by decide +kernel) ⟨Nat.le_of_ble_eq_true rfl, Nat.le_of_ble_eq_true rfl⟩) ⟨YR.blind, YR.pre (hw_of (I := fun _ => 0) hP pw_34) hK rfl⟩ rfl rfl hl.1 rfl (lv_room (Nat.le_of_ble_eq_true rfl)) dL_act_310 ⟨Nat.le_of_ble_eq_true rfl, Nat.le_of_ble_eq_true rfl⟩) hS hP (fun H locs hP hS => ?_)
            refine lv_istore (lv' := [(11, .int (cnS ((R 20)) 8)), (10, .int (nI le)), (9, .int (nI k)), (8, .int (nI hw)), (0, .ref (ad 0)), (1, .int x), (2, .int y), (3, .ref (ad 34)), (4, .ref (ad 35)), (5, .ref (ad 36)), (6, .ref (ad 37)), (7, .ref (ad 38))]) hx hb dL_act_313 hl (by decide) rfl (fun ls hl => ?_)
            refine lv_iconst (v := 0) hx hb dL_act_315 (by decide) ?_
            refine lv_istore (lv' := [(12, .int 0), (11, .int (cnS ((R 20)) 8)), (10, .int (nI le)), (9, .int (nI k)), (8, .int (nI hw)), (0, .ref (ad 0)), (1, .int x), (2, .int y), (3, .ref (ad 34)), (4, .ref (ad 35)), (5, .ref (ad 36)), (6, .ref (ad 37)), (7, .ref (ad 38))]) hx hb dL_act_316 hl (by decide) rfl (fun ls hl => ?_)
            suffices ih_318 : ∀ (fu : Nat) (i : Nat) (f : Nat → Int32) (H : Heap) (locs : List Loc) (ls : Array Slot), 8 - i < fu → (i ≤ 8) → (∀ j, j < i → f j = doF (R 20) (nI le) j) → (∀ j, i ≤ j → f j = R 20 j) → va_P D vwCl (pw T ad I (updR R 20 f)) H →  va_S (cA 39 ad s.heap.size) s.heap H locs → lv_has ls 14 [(0, .ref (ad 0)), (3, .ref (ad 34)), (10, .int (nI le)), (11, .int (cnS (R 20) 8)), (12, .int (nI i))] → W p l e (headSpec wsL_act ({ frames := 8, cells := 3, slots := 18, locals := 129 })).room s m ([.ref (ad 0), .int x, .int y, .ref (ad 34), .ref (ad 35), .ref (ad 36), .ref (ad 37), .ref (ad 38)] : List Value).toArray below meth c H locs 0 0 (MQ below (va_Qi (fun r (u : (Nat → Int32) × (Nat → Nat → Int32) × Nat × Nat × Nat) => r = 1 ∧ JL u.2.2.1 u.2.2.2.1 u.2.2.2.2 u.1 u.2.1) (fun (u : (Nat → Int32) × (Nat → Nat → Int32) × Nat × Nat × Nat) t => va_P D vwCl (pw T ad u.1 u.2.1) t.heap) (cA 39 ad s.heap.size)) ([.ref (ad 0), .int x, .int y, .ref (ad 34), .ref (ad 35), .ref (ad 36), .ref (ad 37), .ref (ad 38)] : List Value).toArray s 3 18 (cA 39 ad s.heap.size)) (F0 m 318 ls []) from
              ih_318 _ 0 (R 20) _ _ _ (Nat.lt_succ_self _) (by omega) (fun j h => absurd h (Nat.not_lt_zero j)) (fun j _ => rfl) (selfP hP) hS (lv_sub hl [5, 8, 2, 1, 0] rfl)
            intro fu
            induction fu with
            | zero => intro i f H locs ls hfu; exact absurd hfu (Nat.not_lt_zero _)
            | succ fu ih_318 =>
              intro i f H locs ls hfu hi hf1 hf2 hP hS hl
              refine lv_iload hx hb dL_act_318 (lv_at hl 4 rfl) ?_
              refine lv_bipush (v := 8) hx hb dL_act_320 (by decide) ?_
              refine lv_icmp_ge (tgt := 355) hx hb dL_act_322 (by decide) (fun c_322 => ?_) (fun c_322 => ?_)
              · have c_322 : 8 ≤ i := (nI_leI (a := 8) (b := i) (by omega) (by omega)).mp c_322
                obtain rfl : i = 8 := by omega
                have hP := updP (cx_re hP pw_34 hf1 pw_R20)
                refine lv_aload_n hx hb dL_act_355 rfl (lv_at hl 0 rfl) ?_
                refine lv_iload hx hb dL_act_356 (lv_at hl 2 rfl) ?_
                refine cx_wi (vx_runSW (As := [.ref (ad 0), .int (nI le)]) (rest := []) ⟨hx, hb, hml, hown, hts⟩ (h_drop l D T ad I (updR R 20 (doF (R 20) (nI le))) _ nx ct (nI le) (AD_le hAD (by decide)) (hnx) (hct) (hI1) (hI2) (hle)) (vx_cwSW 2 hts gL_act_L_drop rfl rfl rfl (by decide +kernel) ⟨Nat.le_of_ble_eq_true rfl, Nat.le_of_ble_eq_true rfl⟩) ⟨CB.blind, CB.pre (pw_c hP) hK hN rfl⟩ rfl rfl hl.1 rfl (lv_room (Nat.le_of_ble_eq_true rfl)) dL_act_358 ⟨Nat.le_of_ble_eq_true rfl, Nat.le_of_ble_eq_true rfl⟩) hS (cA_sub (fun j hj => cA_in (by omega)) (fun q hq => cA_new (Nat.le_trans hS.1 hq))) (cA_sub (fun j hj => cA_in (by omega)) (fun q hq => cA_new (Nat.le_trans hS.1 hq))) (fun u_358 H locs hu_358 hP1 hkk hS => ?_)
                refine cx_top (y := (doS ((R 0)) (nI le) 8)) rfl ?_
                have hP := pw_join hAD hP hkk hP1
                refine lv_iload hx hb dL_act_361 (lv_at hl 3 rfl) ?_
                refine lv_aload_n hx hb dL_act_363 rfl (lv_at hl 1 rfl) ?_
                refine cx_ri (va_runS (As := [.ref (ad 34)]) (rest := [.int (cnS (R 20) 8), .int (doS ((R 0)) (nI le) 8)]) ⟨hx, hb, hml, hown, hts⟩ (c_L_turning l D T (fun _ => ad 34) (fun _ => 0) (fun _ => (doF (R 20) (nI le)))) (va_cwS 1 hts gL_act_L_turning rfl rfl rfl (by decide +kernel) ⟨Nat.le_of_ble_eq_true rfl, Nat.le_of_ble_eq_true rfl⟩) ⟨YR.blind, YR.pre (hw_of (I := fun _ => 0) hP pw_34) hK rfl⟩ rfl rfl hl.1 rfl (lv_room (Nat.le_of_ble_eq_true rfl)) dL_act_364 ⟨Nat.le_of_ble_eq_true rfl, Nat.le_of_ble_eq_true rfl⟩) hS hP (fun H locs hP hS => ?_)
                refine lv_isub hx hb dL_act_367 ?_
                refine lv_icmp_ne (tgt := 396) hx hb dL_act_368 (by decide) (fun c_368 => ?_) (fun c_368 => ?_)
                · exact absurd (show doS (R 0) (nI le) 8 = _ from by rw [h0]; exact (do_dif _ _).symm) c_368
                · refine lv_aload_n hx hb dL_act_371 rfl (lv_at hl 0 rfl) ?_
                  refine lv_iconst (v := 0) hx hb dL_act_372 (by decide) ?_
                  refine cx_rm (vx_runSW (As := [.ref (ad 0), .int 0]) (rest := []) ⟨hx, hb, hml, hown, hts⟩ (h_drop_t1 l D T ad (pushI I nx ct) (mixR (updR (pushR (updR R 20 (doF (R 20) (nI le))) nx) 0 (doF ((R 0)) (nI le))) (updR R 20 (doF (R 20) (nI le)))) hlt 0 (by decide)) (vx_cwSW 2 hts gL_act_L_drop rfl rfl rfl (by decide +kernel) ⟨Nat.le_of_ble_eq_true rfl, Nat.le_of_ble_eq_true rfl⟩) ⟨XN.blind, XN.pre (pw_c hP) hK hN hXU hXZ hNc hS rfl⟩ rfl rfl hl.1 rfl (lv_room (Nat.le_of_ble_eq_true rfl)) dL_act_373 ⟨Nat.le_of_ble_eq_true rfl, Nat.le_of_ble_eq_true rfl⟩) hS (fun H locs hkk hS => ?_)
                  have hP := cx_keep hP hkk
                  refine W.widen (k := 1) (n := 6) (by decide) (by decide) ?_
                  refine lv_bipush (v := (-32)) hx hb dL_act_376 (by decide) ?_
                  refine lv_icmp_ne (tgt := 396) hx hb dL_act_378 (by decide) (fun c_378 => absurd c_378 (by decide)) (fun c_378 => ?_)
                  refine lv_aload_n hx hb dL_act_381 rfl (lv_at hl 0 rfl) ?_
                  refine lv_bipush (v := 100) hx hb dL_act_382 (by decide) ?_
                  refine cx_rm (vx_runSW (As := [.ref (ad 0), .int 100]) (rest := []) ⟨hx, hb, hml, hown, hts⟩ (h_drop_t1 l D T ad (pushI I nx ct) (mixR (updR (pushR (updR R 20 (doF (R 20) (nI le))) nx) 0 (doF ((R 0)) (nI le))) (updR R 20 (doF (R 20) (nI le)))) hlt 100 (by decide)) (vx_cwSW 2 hts gL_act_L_drop rfl rfl rfl (by decide +kernel) ⟨Nat.le_of_ble_eq_true rfl, Nat.le_of_ble_eq_true rfl⟩) ⟨XN.blind, XN.pre (pw_c hP) hK hN hXU hXZ hNc hS rfl⟩ rfl rfl hl.1 rfl (lv_room (Nat.le_of_ble_eq_true rfl)) dL_act_384 ⟨Nat.le_of_ble_eq_true rfl, Nat.le_of_ble_eq_true rfl⟩) hS (fun H locs hkk hS => ?_)
                  have hP := cx_keep hP hkk
                  refine W.widen (k := 2) (n := 12) (by decide) (by decide) ?_
                  refine lv_bipush (v := (-32)) hx hb dL_act_387 (by decide) ?_
                  refine lv_icmp_ne (tgt := 396) hx hb dL_act_389 (by decide) (fun c_389 => absurd c_389 (by decide)) (fun c_389 => ?_)
                  refine lv_iconst (v := 1) hx hb dL_act_392 (by decide) ?_
                  refine lv_goto (tgt := 397) hx hb dL_act_393 (by decide) ?_
                  have j0 : lm < 256 := hm
                  have j4 : (pushI I nx ct) 4 = nI lm := pushI_4.trans hI
                  have j1 : (pushI I nx ct) 1 = nI ((nx + 1) % 6) := pu_1
                  have j2 : (pushI I nx ct) 2 = nI (min (ct + 1) 6) := pu_2
                  have k0 : (updR (pushR (updR R 20 (doF (R 20) (nI le))) nx) 0 (doF ((R 0)) (nI le))) 0 = (updR R 20 (doF (R 20) (nI le))) 20 := by rw [ur_eq, ur_eq, h0]
                  have k1 : (updR (pushR (updR R 20 (doF (R 20) (nI le))) nx) 0 (doF ((R 0)) (nI le))) 1 = (updR R 20 (doF (R 20) (nI le))) 22 := by rw [ur_ne (by decide), pushR_k hnx (by omega), ur_ne (by decide), ur_ne (by decide), h1]
                  have kb : (updR R 20 (doF (R 20) (nI le))) 21 = lbI lm := by rw [ur_ne (by decide)]; exact hb1
                  have j5 : (pushI I nx ct) 5 = (updR R 20 (doF (R 20) (nI le))) 24 0 := by rw [ur_ne (by decide)]; exact pushI_5.trans h5
                  have ka : BdA ((updR R 20 (doF (R 20) (nI le))) 20) := by rw [ur_eq]; exact bd_do hbd _
                  have kp : BdP ((updR R 20 (doF (R 20) (nI le))) 22) := by rw [ur_ne (by decide)]; exact hbp
                  refine W.widen (k := 3) (n := 18) (by decide) (by decide) ?_
                  exact W.zret (v := 1) hx hb hr (rfl) (fun t ht hW => ⟨⟨1, ((pushI I nx ct), (mixR (updR (pushR (updR R 20 (doF (R 20) (nI le))) nx) 0 (doF ((R 0)) (nI le))) (updR R 20 (doF (R 20) (nI le)))), lm, (nx + 1) % 6, min (ct + 1) 6), rfl, ⟨rfl, jl_mix j0 j4 j1 j2 k0 k1 kb j5 ka kp⟩, by show va_P _ _ _ _; rw [ht]; exact hP⟩, hS.F ht⟩) hS.2.2 dL_act_397
              · have c_322 : ¬ (8 ≤ i) := fun h => c_322 ((nI_leI (a := 8) (b := i) (by omega) (by omega)).mpr h)
                refine lv_aload_n hx hb dL_act_325 rfl (lv_at hl 1 rfl) ?_
                refine lv_iload hx hb dL_act_326 (lv_at hl 4 rfl) ?_
                refine lv_aload_n hx hb dL_act_328 rfl (lv_at hl 1 rfl) ?_
                refine lv_iload hx hb dL_act_329 (lv_at hl 4 rfl) ?_
                refine cx_iald (k := i) hx hb hK hP 34 1 pw_34 rfl (by omega) (by decide) dL_act_331 ?_
                refine cx_top (y := (f i)) rfl ?_
                refine cx_ri (va_runS (As := [.int (f i)]) (rest := [.int (nI i), .ref (ad 34)]) ⟨hx, hb, hml, hown, hts⟩ (c_L_amount l  (f i)) (va_cwS 1 hts gL_act_L_amount rfl rfl rfl (by decide +kernel) ⟨Nat.le_of_ble_eq_true rfl, Nat.le_of_ble_eq_true rfl⟩) ⟨pc_blind, (fun U hU hW => ⟨rfl, trivial⟩)⟩ rfl rfl hl.1 rfl (lv_room (Nat.le_of_ble_eq_true rfl)) dL_act_332 ⟨Nat.le_of_ble_eq_true rfl, Nat.le_of_ble_eq_true rfl⟩) hS hP (fun H locs hP hS => ?_)
                refine lv_iload hx hb dL_act_335 (lv_at hl 2 rfl) ?_
                refine lv_icmp_lt (tgt := 347) hx hb dL_act_337 (by decide) (fun c_337 => ?_) (fun c_337 => ?_)
                · refine lv_iconst (v := 0) hx hb dL_act_347 (by decide) ?_
                  refine cx_iast (k := i) hx hb hK hP (hD _ _) hS 34 1 pw_34 rfl (by omega) (by decide) pw_R20 dL_act_348 (fun H locs hP hS => ?_)
                  refine lv_iinc (k := 4) (v := (nI (i + 1))) (lv' := [(12, .int (nI (i + 1))), (0, .ref (ad 0)), (3, .ref (ad 34)), (10, .int (nI le)), (11, .int (cnS (R 20) 8))]) hx hb dL_act_349 hl rfl (nI_add i 1) (by decide) rfl (fun ls hl => ?_)
                  refine lv_goto (tgt := 318) hx hb dL_act_352 (by decide) ?_
                  exact ih_318 (i + 1) (upd f i 0) _ _ _ (by omega) (by omega) (up_at hf1 (dl_t (hf2 i (Nat.le_refl i)) c_337)) (un_up hf2) (updP hP) hS (lv_sub hl [1, 2, 3, 4, 0] rfl)
                · refine lv_aload_n hx hb dL_act_340 rfl (lv_at hl 1 rfl) ?_
                  refine lv_iload hx hb dL_act_341 (lv_at hl 4 rfl) ?_
                  refine cx_iald (k := i) hx hb hK hP 34 1 pw_34 rfl (by omega) (by decide) dL_act_343 ?_
                  refine cx_top (y := (f i)) rfl ?_
                  refine lv_goto (tgt := 348) hx hb dL_act_344 (by decide) ?_
                  refine cx_iast (k := i) hx hb hK hP (hD _ _) hS 34 1 pw_34 rfl (by omega) (by decide) pw_R20 dL_act_348 (fun H locs hP hS => ?_)
                  refine lv_iinc (k := 4) (v := (nI (i + 1))) (lv' := [(12, .int (nI (i + 1))), (0, .ref (ad 0)), (3, .ref (ad 34)), (10, .int (nI le)), (11, .int (cnS (R 20) 8))]) hx hb dL_act_349 hl rfl (nI_add i 1) (by decide) rfl (fun ls hl => ?_)
                  refine lv_goto (tgt := 318) hx hb dL_act_352 (by decide) ?_
                  exact ih_318 (i + 1) (upd f i (f i)) _ _ _ (by omega) (by omega) (up_at hf1 (dl_f (hf2 i (Nat.le_refl i)) c_337)) (un_up hf2) (updP hP) hS (lv_sub hl [1, 2, 3, 4, 0] rfl)
      · have c_185 : hw = 7 := (nI_eq (a := hw) (b := 7) (by omega) (by omega)).mp c_185
        refine lv_iconst (v := 0) hx hb dL_act_188 (by decide) ?_
        refine lv_istore (lv' := [(10, .int 0), (9, .int (nI k)), (8, .int (nI hw)), (0, .ref (ad 0)), (1, .int x), (2, .int y), (3, .ref (ad 34)), (4, .ref (ad 35)), (5, .ref (ad 36)), (6, .ref (ad 37)), (7, .ref (ad 38))]) hx hb dL_act_189 hl (by decide) rfl (fun ls hl => ?_)
        refine lv_iconst (v := 0) hx hb dL_act_191 (by decide) ?_
        refine lv_istore (lv' := [(11, .int 0), (10, .int 0), (9, .int (nI k)), (8, .int (nI hw)), (0, .ref (ad 0)), (1, .int x), (2, .int y), (3, .ref (ad 34)), (4, .ref (ad 35)), (5, .ref (ad 36)), (6, .ref (ad 37)), (7, .ref (ad 38))]) hx hb dL_act_192 hl (by decide) rfl (fun ls hl => ?_)
        suffices ih_194 : ∀ (fu : Nat) (i : Nat) (f : Nat → Int32) (sn : Int32) (H : Heap) (locs : List Loc) (ls : Array Slot), 8 - i < fu → (i ≤ 8) → (∀ j, j < i → f j = tuF (R 20) k j) → (∀ j, i ≤ j → f j = R 20 j) → (sn = tuS (R 20) k i) → va_P D vwCl (pw T ad I (updR R 20 f)) H →  va_S (cA 39 ad s.heap.size) s.heap H locs → lv_has ls 14 [(0, .ref (ad 0)), (3, .ref (ad 34)), (9, .int (nI k)), (10, .int sn), (11, .int (nI i))] → W p l e (headSpec wsL_act ({ frames := 8, cells := 3, slots := 18, locals := 129 })).room s m ([.ref (ad 0), .int x, .int y, .ref (ad 34), .ref (ad 35), .ref (ad 36), .ref (ad 37), .ref (ad 38)] : List Value).toArray below meth c H locs 0 0 (MQ below (va_Qi (fun r (u : (Nat → Int32) × (Nat → Nat → Int32) × Nat × Nat × Nat) => r = 1 ∧ JL u.2.2.1 u.2.2.2.1 u.2.2.2.2 u.1 u.2.1) (fun (u : (Nat → Int32) × (Nat → Nat → Int32) × Nat × Nat × Nat) t => va_P D vwCl (pw T ad u.1 u.2.1) t.heap) (cA 39 ad s.heap.size)) ([.ref (ad 0), .int x, .int y, .ref (ad 34), .ref (ad 35), .ref (ad 36), .ref (ad 37), .ref (ad 38)] : List Value).toArray s 3 18 (cA 39 ad s.heap.size)) (F0 m 194 ls []) from
          ih_194 _ 0 (R 20) 0 _ _ _ (Nat.lt_succ_self _) (by omega) (fun j h => absurd h (Nat.not_lt_zero j)) (fun j _ => rfl) (rfl) (selfP hP) hS (lv_sub hl [4, 7, 2, 1, 0] rfl)
        intro fu
        induction fu with
        | zero => intro i f sn H locs ls hfu; exact absurd hfu (Nat.not_lt_zero _)
        | succ fu ih_194 =>
          intro i f sn H locs ls hfu hi hf1 hf2 hs hP hS hl
          refine lv_iload hx hb dL_act_194 (lv_at hl 4 rfl) ?_
          refine lv_bipush (v := 8) hx hb dL_act_196 (by decide) ?_
          refine lv_icmp_ge (tgt := 248) hx hb dL_act_198 (by decide) (fun c_198 => ?_) (fun c_198 => ?_)
          · have c_198 : 8 ≤ i := (nI_leI (a := 8) (b := i) (by omega) (by omega)).mp c_198
            obtain rfl : i = 8 := by omega
            have hP := updP (cx_re hP pw_34 hf1 pw_R20)
            refine lv_aload_n hx hb dL_act_248 rfl (lv_at hl 0 rfl) ?_
            refine lv_iload hx hb dL_act_249 (lv_at hl 2 rfl) ?_
            refine cx_wi (vx_runSW (As := [.ref (ad 0), .int (nI k)]) (rest := []) ⟨hx, hb, hml, hown, hts⟩ (h_turn l D T ad I (updR R 20 (tuF (R 20) k)) _ nx ct k (AD_le hAD (by decide)) (hnx) (hct) (hI1) (hI2) (hk)) (vx_cwSW 2 hts gL_act_L_turn rfl rfl rfl (by decide +kernel) ⟨Nat.le_of_ble_eq_true rfl, Nat.le_of_ble_eq_true rfl⟩) ⟨CB.blind, CB.pre (pw_c hP) hK hN rfl⟩ rfl rfl hl.1 rfl (lv_room (Nat.le_of_ble_eq_true rfl)) dL_act_251 ⟨Nat.le_of_ble_eq_true rfl, Nat.le_of_ble_eq_true rfl⟩) hS (cA_sub (fun j hj => cA_in (by omega)) (fun q hq => cA_new (Nat.le_trans hS.1 hq))) (cA_sub (fun j hj => cA_in (by omega)) (fun q hq => cA_new (Nat.le_trans hS.1 hq))) (fun u_251 H locs hu_251 hP1 hkk hS => ?_)
            refine cx_top (y := (tuS ((R 0)) k 8)) rfl ?_
            have hP := pw_join hAD hP hkk hP1
            refine lv_iload hx hb dL_act_254 (lv_at hl 3 rfl) ?_
            refine lv_icmp_ne (tgt := 274) hx hb dL_act_256 (by decide) (fun c_256 => ?_) (fun c_256 => ?_)
            · exact absurd (show tuS (R 0) k 8 = sn from by rw [h0]; exact hs.symm) c_256
            · refine lv_aload_n hx hb dL_act_259 rfl (lv_at hl 0 rfl) ?_
              refine lv_bipush (v := 8) hx hb dL_act_260 (by decide) ?_
              refine cx_rm (vx_runSW (As := [.ref (ad 0), .int 8]) (rest := []) ⟨hx, hb, hml, hown, hts⟩ (h_turn_t1 l D T ad (pushI I nx ct) (mixR (updR (pushR (updR R 20 (tuF (R 20) k)) nx) 0 (tuF ((R 0)) k)) (updR R 20 (tuF (R 20) k))) hlt 8 (by decide)) (vx_cwSW 2 hts gL_act_L_turn rfl rfl rfl (by decide +kernel) ⟨Nat.le_of_ble_eq_true rfl, Nat.le_of_ble_eq_true rfl⟩) ⟨XN.blind, XN.pre (pw_c hP) hK hN hXU hXZ hNc hS rfl⟩ rfl rfl hl.1 rfl (lv_room (Nat.le_of_ble_eq_true rfl)) dL_act_262 ⟨Nat.le_of_ble_eq_true rfl, Nat.le_of_ble_eq_true rfl⟩) hS (fun H locs hkk hS => ?_)
              have hP := cx_keep hP hkk
              refine W.widen (k := 1) (n := 6) (by decide) (by decide) ?_
              refine lv_bipush (v := (-32)) hx hb dL_act_265 (by decide) ?_
              refine lv_icmp_ne (tgt := 274) hx hb dL_act_267 (by decide) (fun c_267 => absurd c_267 (by decide)) (fun c_267 => ?_)
              refine lv_iconst (v := 1) hx hb dL_act_270 (by decide) ?_
              refine lv_goto (tgt := 275) hx hb dL_act_271 (by decide) ?_
              have j0 : lm < 256 := hm
              have j4 : (pushI I nx ct) 4 = nI lm := pushI_4.trans hI
              have j1 : (pushI I nx ct) 1 = nI ((nx + 1) % 6) := pu_1
              have j2 : (pushI I nx ct) 2 = nI (min (ct + 1) 6) := pu_2
              have k0 : (updR (pushR (updR R 20 (tuF (R 20) k)) nx) 0 (tuF ((R 0)) k)) 0 = (updR R 20 (tuF (R 20) k)) 20 := by rw [ur_eq, ur_eq, h0]
              have k1 : (updR (pushR (updR R 20 (tuF (R 20) k)) nx) 0 (tuF ((R 0)) k)) 1 = (updR R 20 (tuF (R 20) k)) 22 := by rw [ur_ne (by decide), pushR_k hnx (by omega), ur_ne (by decide), ur_ne (by decide), h1]
              have kb : (updR R 20 (tuF (R 20) k)) 21 = lbI lm := by rw [ur_ne (by decide)]; exact hb1
              have j5 : (pushI I nx ct) 5 = (updR R 20 (tuF (R 20) k)) 24 0 := by rw [ur_ne (by decide)]; exact pushI_5.trans h5
              have ka : BdA ((updR R 20 (tuF (R 20) k)) 20) := by rw [ur_eq]; exact bd_tu hbd k
              have kp : BdP ((updR R 20 (tuF (R 20) k)) 22) := by rw [ur_ne (by decide)]; exact hbp
              refine W.widen (k := 3) (n := 18) (by decide) (by decide) ?_
              exact W.zret (v := 1) hx hb hr (rfl) (fun t ht hW => ⟨⟨1, ((pushI I nx ct), (mixR (updR (pushR (updR R 20 (tuF (R 20) k)) nx) 0 (tuF ((R 0)) k)) (updR R 20 (tuF (R 20) k))), lm, (nx + 1) % 6, min (ct + 1) 6), rfl, ⟨rfl, jl_mix j0 j4 j1 j2 k0 k1 kb j5 ka kp⟩, by show va_P _ _ _ _; rw [ht]; exact hP⟩, hS.F ht⟩) hS.2.2 dL_act_275
          · have c_198 : ¬ (8 ≤ i) := fun h => c_198 ((nI_leI (a := 8) (b := i) (by omega) (by omega)).mpr h)
            refine lv_iload hx hb dL_act_201 (lv_at hl 3 rfl) ?_
            refine lv_aload_n hx hb dL_act_203 rfl (lv_at hl 1 rfl) ?_
            refine lv_iload hx hb dL_act_204 (lv_at hl 4 rfl) ?_
            refine cx_iald (k := i) hx hb hK hP 34 1 pw_34 rfl (by omega) (by decide) dL_act_206 ?_
            refine cx_top (y := (f i)) rfl ?_
            refine lv_if_eq (tgt := 224) hx hb dL_act_207 (by decide) (fun c_207 => ?_) (fun c_207 => ?_)
            · refine lv_iconst (v := 0) hx hb dL_act_224 (by decide) ?_
              refine lv_iadd hx hb dL_act_225 ?_
              refine lv_istore (lv' := [(10, .int (sn + 0)), (0, .ref (ad 0)), (3, .ref (ad 34)), (9, .int (nI k)), (11, .int (nI i))]) hx hb dL_act_226 hl (by decide) rfl (fun ls hl => ?_)
              refine lv_aload_n hx hb dL_act_228 rfl (lv_at hl 2 rfl) ?_
              refine lv_iload hx hb dL_act_229 (lv_at hl 4 rfl) ?_
              refine lv_dup2_11 hx hb dL_act_231 rfl rfl ?_
              refine cx_iald (k := i) hx hb hK hP 34 1 pw_34 rfl (by omega) (by decide) dL_act_232 ?_
              refine cx_top (y := (f i)) rfl ?_
              refine lv_iload hx hb dL_act_233 (lv_at hl 4 rfl) ?_
              refine lv_iload hx hb dL_act_235 (lv_at hl 3 rfl) ?_
              refine cx_ri (va_runS (As := [.int (nI i), .int (nI k)]) (rest := [.int (f i), .int (nI i), .ref (ad 34)]) ⟨hx, hb, hml, hown, hts⟩ (c_L_wave l  i k (by omega) (hk)) (va_cwS 2 hts gL_act_L_wave rfl rfl rfl (by decide +kernel) ⟨Nat.le_of_ble_eq_true rfl, Nat.le_of_ble_eq_true rfl⟩) ⟨pc_blind, (fun U hU hW => ⟨rfl, trivial⟩)⟩ rfl rfl hl.1 rfl (lv_room (Nat.le_of_ble_eq_true rfl)) dL_act_237 ⟨Nat.le_of_ble_eq_true rfl, Nat.le_of_ble_eq_true rfl⟩) hS hP (fun H locs hP hS => ?_)
              refine lv_imul hx hb dL_act_240 ?_
              refine cx_top (show ((f i) * (wv i k)) = (f i * wv i k) from rfl) ?_
              refine cx_iast (k := i) hx hb hK hP (hD _ _) hS 34 1 pw_34 rfl (by omega) (by decide) pw_R20 dL_act_241 (fun H locs hP hS => ?_)
              refine lv_iinc (k := 4) (v := (nI (i + 1))) (lv' := [(11, .int (nI (i + 1))), (10, .int (sn + 0)), (0, .ref (ad 0)), (3, .ref (ad 34)), (9, .int (nI k))]) hx hb dL_act_242 hl rfl (nI_add i 1) (by decide) rfl (fun ls hl => ?_)
              refine lv_goto (tgt := 194) hx hb dL_act_245 (by decide) ?_
              exact ih_194 (i + 1) (upd f i (f i * wv i k)) (sn + 0) _ _ _ (by omega) (by omega) (up_at hf1 (tl_v (hf2 i (Nat.le_refl i)))) (un_up hf2) (tl_a hs (hf2 i (Nat.le_refl i)) c_207) (updP hP) hS (lv_sub hl [2, 3, 4, 1, 0] rfl)
            · refine lv_iload hx hb dL_act_210 (lv_at hl 4 rfl) ?_
              refine lv_iload hx hb dL_act_212 (lv_at hl 2 rfl) ?_
              refine cx_ri (va_runS (As := [.int (nI i), .int (nI k)]) (rest := [.int sn]) ⟨hx, hb, hml, hown, hts⟩ (c_L_wave l  i k (by omega) (hk)) (va_cwS 2 hts gL_act_L_wave rfl rfl rfl (by decide +kernel) ⟨Nat.le_of_ble_eq_true rfl, Nat.le_of_ble_eq_true rfl⟩) ⟨pc_blind, (fun U hU hW => ⟨rfl, trivial⟩)⟩ rfl rfl hl.1 rfl (lv_room (Nat.le_of_ble_eq_true rfl)) dL_act_214 ⟨Nat.le_of_ble_eq_true rfl, Nat.le_of_ble_eq_true rfl⟩) hS hP (fun H locs hP hS => ?_)
              refine lv_if_ge (tgt := 224) hx hb dL_act_217 (by decide) (fun c_217 => ?_) (fun c_217 => ?_)
              · refine lv_iconst (v := 0) hx hb dL_act_224 (by decide) ?_
                refine lv_iadd hx hb dL_act_225 ?_
                refine lv_istore (lv' := [(10, .int (sn + 0)), (0, .ref (ad 0)), (3, .ref (ad 34)), (9, .int (nI k)), (11, .int (nI i))]) hx hb dL_act_226 hl (by decide) rfl (fun ls hl => ?_)
                refine lv_aload_n hx hb dL_act_228 rfl (lv_at hl 2 rfl) ?_
                refine lv_iload hx hb dL_act_229 (lv_at hl 4 rfl) ?_
                refine lv_dup2_11 hx hb dL_act_231 rfl rfl ?_
                refine cx_iald (k := i) hx hb hK hP 34 1 pw_34 rfl (by omega) (by decide) dL_act_232 ?_
                refine cx_top (y := (f i)) rfl ?_
                refine lv_iload hx hb dL_act_233 (lv_at hl 4 rfl) ?_
                refine lv_iload hx hb dL_act_235 (lv_at hl 3 rfl) ?_
                refine cx_ri (va_runS (As := [.int (nI i), .int (nI k)]) (rest := [.int (f i), .int (nI i), .ref (ad 34)]) ⟨hx, hb, hml, hown, hts⟩ (c_L_wave l  i k (by omega) (hk)) (va_cwS 2 hts gL_act_L_wave rfl rfl rfl (by decide +kernel) ⟨Nat.le_of_ble_eq_true rfl, Nat.le_of_ble_eq_true rfl⟩) ⟨pc_blind, (fun U hU hW => ⟨rfl, trivial⟩)⟩ rfl rfl hl.1 rfl (lv_room (Nat.le_of_ble_eq_true rfl)) dL_act_237 ⟨Nat.le_of_ble_eq_true rfl, Nat.le_of_ble_eq_true rfl⟩) hS hP (fun H locs hP hS => ?_)
                refine lv_imul hx hb dL_act_240 ?_
                refine cx_top (show ((f i) * (wv i k)) = (f i * wv i k) from rfl) ?_
                refine cx_iast (k := i) hx hb hK hP (hD _ _) hS 34 1 pw_34 rfl (by omega) (by decide) pw_R20 dL_act_241 (fun H locs hP hS => ?_)
                refine lv_iinc (k := 4) (v := (nI (i + 1))) (lv' := [(11, .int (nI (i + 1))), (10, .int (sn + 0)), (0, .ref (ad 0)), (3, .ref (ad 34)), (9, .int (nI k))]) hx hb dL_act_242 hl rfl (nI_add i 1) (by decide) rfl (fun ls hl => ?_)
                refine lv_goto (tgt := 194) hx hb dL_act_245 (by decide) ?_
                exact ih_194 (i + 1) (upd f i (f i * wv i k)) (sn + 0) _ _ _ (by omega) (by omega) (up_at hf1 (tl_v (hf2 i (Nat.le_refl i)))) (un_up hf2) (tl_b hs c_217) (updP hP) hS (lv_sub hl [2, 3, 4, 1, 0] rfl)
              · refine lv_iconst (v := 1) hx hb dL_act_220 (by decide) ?_
                refine lv_goto (tgt := 225) hx hb dL_act_221 (by decide) ?_
                refine lv_iadd hx hb dL_act_225 ?_
                refine lv_istore (lv' := [(10, .int (sn + 1)), (0, .ref (ad 0)), (3, .ref (ad 34)), (9, .int (nI k)), (11, .int (nI i))]) hx hb dL_act_226 hl (by decide) rfl (fun ls hl => ?_)
                refine lv_aload_n hx hb dL_act_228 rfl (lv_at hl 2 rfl) ?_
                refine lv_iload hx hb dL_act_229 (lv_at hl 4 rfl) ?_
                refine lv_dup2_11 hx hb dL_act_231 rfl rfl ?_
                refine cx_iald (k := i) hx hb hK hP 34 1 pw_34 rfl (by omega) (by decide) dL_act_232 ?_
                refine cx_top (y := (f i)) rfl ?_
                refine lv_iload hx hb dL_act_233 (lv_at hl 4 rfl) ?_
                refine lv_iload hx hb dL_act_235 (lv_at hl 3 rfl) ?_
                refine cx_ri (va_runS (As := [.int (nI i), .int (nI k)]) (rest := [.int (f i), .int (nI i), .ref (ad 34)]) ⟨hx, hb, hml, hown, hts⟩ (c_L_wave l  i k (by omega) (hk)) (va_cwS 2 hts gL_act_L_wave rfl rfl rfl (by decide +kernel) ⟨Nat.le_of_ble_eq_true rfl, Nat.le_of_ble_eq_true rfl⟩) ⟨pc_blind, (fun U hU hW => ⟨rfl, trivial⟩)⟩ rfl rfl hl.1 rfl (lv_room (Nat.le_of_ble_eq_true rfl)) dL_act_237 ⟨Nat.le_of_ble_eq_true rfl, Nat.le_of_ble_eq_true rfl⟩) hS hP (fun H locs hP hS => ?_)
                refine lv_imul hx hb dL_act_240 ?_
                refine cx_top (show ((f i) * (wv i k)) = (f i * wv i k) from rfl) ?_
                refine cx_iast (k := i) hx hb hK hP (hD _ _) hS 34 1 pw_34 rfl (by omega) (by decide) pw_R20 dL_act_241 (fun H locs hP hS => ?_)
                refine lv_iinc (k := 4) (v := (nI (i + 1))) (lv' := [(11, .int (nI (i + 1))), (10, .int (sn + 1)), (0, .ref (ad 0)), (3, .ref (ad 34)), (9, .int (nI k))]) hx hb dL_act_242 hl rfl (nI_add i 1) (by decide) rfl (fun ls hl => ?_)
                refine lv_goto (tgt := 194) hx hb dL_act_245 (by decide) ?_
                exact ih_194 (i + 1) (upd f i (f i * wv i k)) (sn + 1) _ _ _ (by omega) (by omega) (up_at hf1 (tl_v (hf2 i (Nat.le_refl i)))) (un_up hf2) (tl_c hs (hf2 i (Nat.le_refl i)) c_207 c_217) (updP hP) hS (lv_sub hl [2, 3, 4, 1, 0] rfl)
    · have c_136 : ¬ (7 ≤ hw) := fun h => c_136 ((nI_leI (a := 7) (b := hw) (by omega) (by omega)).mpr h)
      refine lv_aload hx hb dL_act_139 (lv_at hl 6 rfl) ?_
      refine lv_iload hx hb dL_act_141 (lv_at hl 0 rfl) ?_
      refine lv_iconst (v := 1) hx hb dL_act_143 (by decide) ?_
      refine lv_aload hx hb dL_act_144 (lv_at hl 6 rfl) ?_
      refine lv_iload hx hb dL_act_146 (lv_at hl 0 rfl) ?_
      refine cx_iald (k := k) hx hb hK hP 35 1 pw_35 rfl (hk) (by decide) dL_act_148 ?_
      refine cx_top (y := ((R 21) k)) rfl ?_
      refine lv_isub hx hb dL_act_149 ?_
      refine cx_iast (k := k) hx hb hK hP (hD _ _) hS 35 1 pw_35 rfl (hk) (by decide) pw_R21 dL_act_150 (fun H locs hP hS => ?_)
      have hP := updP (cx_re (g := lbI (lm ^^^ 2 ^ k)) hP pw_35 (lo_upd hm hk hb1) pw_R21)
      refine lv_aload_n hx hb dL_act_151 rfl (lv_at hl 2 rfl) ?_
      refine lv_iload hx hb dL_act_152 (lv_at hl 0 rfl) ?_
      refine cx_wi (vx_runSW (As := [.ref (ad 0), .int (nI k)]) (rest := []) ⟨hx, hb, hml, hown, hts⟩ (h_lose l D T ad I (updR R 21 (lbI (lm ^^^ 2 ^ k))) _ nx ct lm k (AD_le hAD (by decide)) (hnx) (hct) (hI1) (hI2) (hm) (hI) (hk)) (vx_cwSW 2 hts gL_act_L_lose rfl rfl rfl (by decide +kernel) ⟨Nat.le_of_ble_eq_true rfl, Nat.le_of_ble_eq_true rfl⟩) ⟨CB.blind, CB.pre (pw_c hP) hK hN rfl⟩ rfl rfl hl.1 rfl (lv_room (Nat.le_of_ble_eq_true rfl)) dL_act_154 ⟨Nat.le_of_ble_eq_true rfl, Nat.le_of_ble_eq_true rfl⟩) hS (cA_sub (fun j hj => cA_in (by omega)) (fun q hq => cA_new (Nat.le_trans hS.1 hq))) (cA_sub (fun j hj => cA_in (by omega)) (fun q hq => cA_new (Nat.le_trans hS.1 hq))) (fun u_154 H locs hu_154 hP1 hkk hS => ?_)
      refine cx_top (y := (lbI (lm ^^^ 2 ^ k) k)) rfl ?_
      have hP := pw_join hAD hP hkk hP1
      refine lv_aload hx hb dL_act_157 (lv_at hl 6 rfl) ?_
      refine lv_iload hx hb dL_act_159 (lv_at hl 0 rfl) ?_
      refine cx_iald (k := k) hx hb hK hP 35 1 pw_35 rfl (hk) (by decide) dL_act_161 ?_
      refine cx_top (y := ((lbI (lm ^^^ 2 ^ k)) k)) rfl ?_
      refine lv_icmp_ne (tgt := 179) hx hb dL_act_162 (by decide) (fun c_162 => ?_) (fun c_162 => ?_)
      · exact absurd rfl c_162
      · refine lv_aload_n hx hb dL_act_165 rfl (lv_at hl 2 rfl) ?_
        refine lv_iconst (v := (-1)) hx hb dL_act_166 (by decide) ?_
        refine cx_rm (vx_runSW (As := [.ref (ad 0), .int (-1)]) (rest := []) ⟨hx, hb, hml, hown, hts⟩ (h_lose_t1 l D T ad (upd (pushI I nx ct) 4 (nI (lm ^^^ 2 ^ k))) (mixR (pushR (updR R 21 (lbI (lm ^^^ 2 ^ k))) nx) (updR R 21 (lbI (lm ^^^ 2 ^ k)))) hlt (-1) (by decide)) (vx_cwSW 2 hts gL_act_L_lose rfl rfl rfl (by decide +kernel) ⟨Nat.le_of_ble_eq_true rfl, Nat.le_of_ble_eq_true rfl⟩) ⟨XN.blind, XN.pre (pw_c hP) hK hN hXU hXZ hNc hS rfl⟩ rfl rfl hl.1 rfl (lv_room (Nat.le_of_ble_eq_true rfl)) dL_act_167 ⟨Nat.le_of_ble_eq_true rfl, Nat.le_of_ble_eq_true rfl⟩) hS (fun H locs hkk hS => ?_)
        have hP := cx_keep hP hkk
        refine W.widen (k := 1) (n := 6) (by decide) (by decide) ?_
        refine lv_bipush (v := (-31)) hx hb dL_act_170 (by decide) ?_
        refine lv_icmp_ne (tgt := 179) hx hb dL_act_172 (by decide) (fun c_172 => absurd c_172 (by decide)) (fun c_172 => ?_)
        refine lv_iconst (v := 1) hx hb dL_act_175 (by decide) ?_
        refine lv_goto (tgt := 180) hx hb dL_act_176 (by decide) ?_
        have j0 : (lm ^^^ 2 ^ k) < 256 := (xr_01 lm hm k (by omega)).1
        have j4 : (upd (pushI I nx ct) 4 (nI (lm ^^^ 2 ^ k))) 4 = nI (lm ^^^ 2 ^ k) := up_eq
        have j1 : (upd (pushI I nx ct) 4 (nI (lm ^^^ 2 ^ k))) 1 = nI ((nx + 1) % 6) := (up_ne (by decide)).trans pu_1
        have j2 : (upd (pushI I nx ct) 4 (nI (lm ^^^ 2 ^ k))) 2 = nI (min (ct + 1) 6) := (up_ne (by decide)).trans pu_2
        have k0 : (pushR (updR R 21 (lbI (lm ^^^ 2 ^ k))) nx) 0 = (updR R 21 (lbI (lm ^^^ 2 ^ k))) 20 := by rw [pushR_k hnx (by omega), ur_ne (by decide), ur_ne (by decide), h0]
        have k1 : (pushR (updR R 21 (lbI (lm ^^^ 2 ^ k))) nx) 1 = (updR R 21 (lbI (lm ^^^ 2 ^ k))) 22 := by rw [pushR_k hnx (by omega), ur_ne (by decide), ur_ne (by decide), h1]
        have kb : (updR R 21 (lbI (lm ^^^ 2 ^ k))) 21 = lbI (lm ^^^ 2 ^ k) := ur_eq
        have j5 : (upd (pushI I nx ct) 4 (nI (lm ^^^ 2 ^ k))) 5 = (updR R 21 (lbI (lm ^^^ 2 ^ k))) 24 0 := (up_ne (by decide)).trans (by rw [ur_ne (by decide)]; exact pushI_5.trans h5)
        have ka : BdA ((updR R 21 (lbI (lm ^^^ 2 ^ k))) 20) := by rw [ur_ne (by decide)]; exact hbd
        have kp : BdP ((updR R 21 (lbI (lm ^^^ 2 ^ k))) 22) := by rw [ur_ne (by decide)]; exact hbp
        refine W.widen (k := 3) (n := 18) (by decide) (by decide) ?_
        exact W.zret (v := 1) hx hb hr (rfl) (fun t ht hW => ⟨⟨1, ((upd (pushI I nx ct) 4 (nI (lm ^^^ 2 ^ k))), (mixR (pushR (updR R 21 (lbI (lm ^^^ 2 ^ k))) nx) (updR R 21 (lbI (lm ^^^ 2 ^ k)))), (lm ^^^ 2 ^ k), (nx + 1) % 6, min (ct + 1) 6), rfl, ⟨rfl, jl_mix j0 j4 j1 j2 k0 k1 kb j5 ka kp⟩, by show va_P _ _ _ _; rw [ht]; exact hP⟩, hS.F ht⟩) hS.2.2 dL_act_180
  · have c_19 : ¬ (5 ≤ hw) := fun h => c_19 ((nI_leI (a := 5) (b := hw) (by omega) (by omega)).mpr h)
    refine lv_aload_n hx hb dL_act_22 rfl (lv_at hl 5 rfl) ?_
    refine lv_iload hx hb dL_act_23 (lv_at hl 0 rfl) ?_
    refine cx_iald (k := k) hx hb hK hP 34 1 pw_34 rfl (hk) (by decide) dL_act_25 ?_
    refine cx_top (y := ((R 20) k)) rfl ?_
    refine lv_istore (lv' := [(10, .int ((R 20) k)), (9, .int (nI k)), (8, .int (nI hw)), (0, .ref (ad 0)), (1, .int x), (2, .int y), (3, .ref (ad 34)), (4, .ref (ad 35)), (5, .ref (ad 36)), (6, .ref (ad 37)), (7, .ref (ad 38))]) hx hb dL_act_26 hl (by decide) rfl (fun ls hl => ?_)
    refine lv_aload_n hx hb dL_act_28 rfl (lv_at hl 6 rfl) ?_
    refine lv_iload hx hb dL_act_29 (lv_at hl 1 rfl) ?_
    refine lv_iload_n hx hb dL_act_31 rfl (lv_at hl 5 rfl) ?_
    refine lv_iconst (v := 3) hx hb dL_act_32 (by decide) ?_
    refine lv_ishr hx hb dL_act_33 ?_
    refine lv_iload_n hx hb dL_act_34 rfl (lv_at hl 5 rfl) ?_
    refine lv_bipush (v := 20) hx hb dL_act_35 (by decide) ?_
    refine lv_ishr hx hb dL_act_37 ?_
    refine lv_iconst (v := 1) hx hb dL_act_38 (by decide) ?_
    refine lv_iand hx hb dL_act_39 ?_
    refine lv_if_ne (tgt := 48) hx hb dL_act_40 (by decide) (fun c_40 => ?_) (fun c_40 => ?_)
    · refine lv_sipush (v := 199) hx hb dL_act_48 (by decide) ?_
      refine cx_ri (va_runS (As := [.int (y >>> (3 &&& 31)), .int 199]) (rest := [.int (nI k), .ref (ad 34)]) ⟨hx, hb, hml, hown, hts⟩ (c_L_low l  (y >>> (3 &&& 31)) 199 (by decide) (by decide)) (va_cwS 2 hts gL_act_L_low rfl rfl rfl (by decide +kernel) ⟨Nat.le_of_ble_eq_true rfl, Nat.le_of_ble_eq_true rfl⟩) ⟨pc_blind, (fun U hU hW => ⟨rfl, trivial⟩)⟩ rfl rfl hl.1 rfl (lv_room (Nat.le_of_ble_eq_true rfl)) dL_act_51 ⟨Nat.le_of_ble_eq_true rfl, Nat.le_of_ble_eq_true rfl⟩) hS hP (fun H locs hP hS => ?_)
      refine lv_iload_n hx hb dL_act_54 rfl (lv_at hl 5 rfl) ?_
      refine lv_bipush (v := 20) hx hb dL_act_55 (by decide) ?_
      refine lv_ishr hx hb dL_act_57 ?_
      refine lv_iconst (v := 1) hx hb dL_act_58 (by decide) ?_
      refine lv_iand hx hb dL_act_59 ?_
      refine lv_if_ne (tgt := 68) hx hb dL_act_60 (by decide) (fun c_60 => ?_) (fun c_60 => ?_)
      · refine lv_bipush (v := 99) hx hb dL_act_68 (by decide) ?_
        refine lv_isub hx hb dL_act_70 ?_
        obtain ⟨v, ev, hv⟩ : ∃ z, ((nI (loN (y >>> (3 &&& 31)) % 199)) - 99) = z ∧ outI z (-99) 99 = 0 := ⟨_, rfl, so_s (n := 199) (c := 99) (Nat.mod_lt _ (by decide)) (by decide) (by decide)⟩
        refine cx_top ev ?_
        refine cx_iast (k := k) hx hb hK hP (hD _ _) hS 34 1 pw_34 rfl (hk) (by decide) pw_R20 dL_act_71 (fun H locs hP hS => ?_)
        refine lv_aload_n hx hb dL_act_72 rfl (lv_at hl 3 rfl) ?_
        refine lv_iload hx hb dL_act_73 (lv_at hl 1 rfl) ?_
        refine lv_aload_n hx hb dL_act_75 rfl (lv_at hl 6 rfl) ?_
        refine lv_iload hx hb dL_act_76 (lv_at hl 1 rfl) ?_
        refine cx_iald (k := k) hx hb hK hP 34 1 pw_34 rfl (hk) (by decide) dL_act_78 ?_
        refine cx_top (y := ((upd (R 20) k v) k)) rfl ?_
        refine cx_top (show ((upd (R 20) k v) k) = v from up_eq) ?_
        refine cx_wi (vx_runSW (As := [.ref (ad 0), .int (nI k), .int v]) (rest := []) ⟨hx, hb, hml, hown, hts⟩ (h_set l D T ad I (updR R 20 (upd (R 20) k v)) _ nx ct k v (AD_le hAD (by decide)) (hnx) (hct) (hI1) (hI2) (hk) (hv)) (vx_cwSW 3 hts gL_act_L_set rfl rfl rfl (by decide +kernel) ⟨Nat.le_of_ble_eq_true rfl, Nat.le_of_ble_eq_true rfl⟩) ⟨CB.blind, CB.pre (pw_c hP) hK hN rfl⟩ rfl rfl hl.1 rfl (lv_room (Nat.le_of_ble_eq_true rfl)) dL_act_79 ⟨Nat.le_of_ble_eq_true rfl, Nat.le_of_ble_eq_true rfl⟩) hS (cA_sub (fun j hj => cA_in (by omega)) (fun q hq => cA_new (Nat.le_trans hS.1 hq))) (cA_sub (fun j hj => cA_in (by omega)) (fun q hq => cA_new (Nat.le_trans hS.1 hq))) (fun u_79 H locs hu_79 hP1 hkk hS => ?_)
        refine cx_top (y := ((R 0) k)) rfl ?_
        have hP := pw_join hAD hP hkk hP1
        refine lv_iload hx hb dL_act_82 (lv_at hl 0 rfl) ?_
        refine lv_icmp_ne (tgt := 130) hx hb dL_act_84 (by decide) (fun c_84 => ?_) (fun c_84 => ?_)
        · exact absurd (congrFun h0 k) c_84
        · refine lv_aload_n hx hb dL_act_87 rfl (lv_at hl 3 rfl) ?_
          refine lv_bipush (v := 8) hx hb dL_act_88 (by decide) ?_
          refine lv_bipush (v := 100) hx hb dL_act_90 (by decide) ?_
          refine cx_rm (vx_runSW (As := [.ref (ad 0), .int 8, .int 100]) (rest := []) ⟨hx, hb, hml, hown, hts⟩ (h_set_t1 l D T ad (pushI I nx ct) (mixR (updR (pushR (updR R 20 (upd (R 20) k v)) nx) 0 (upd ((R 0)) k v)) (updR R 20 (upd (R 20) k v))) hlt 8 100 (by decide)) (vx_cwSW 3 hts gL_act_L_set rfl rfl rfl (by decide +kernel) ⟨Nat.le_of_ble_eq_true rfl, Nat.le_of_ble_eq_true rfl⟩) ⟨XN.blind, XN.pre (pw_c hP) hK hN hXU hXZ hNc hS rfl⟩ rfl rfl hl.1 rfl (lv_room (Nat.le_of_ble_eq_true rfl)) dL_act_92 ⟨Nat.le_of_ble_eq_true rfl, Nat.le_of_ble_eq_true rfl⟩) hS (fun H locs hkk hS => ?_)
          have hP := cx_keep hP hkk
          refine W.widen (k := 1) (n := 6) (by decide) (by decide) ?_
          refine lv_bipush (v := (-31)) hx hb dL_act_95 (by decide) ?_
          refine lv_icmp_ne (tgt := 130) hx hb dL_act_97 (by decide) (fun c_97 => absurd c_97 (by decide)) (fun c_97 => ?_)
          refine lv_aload_n hx hb dL_act_100 rfl (lv_at hl 3 rfl) ?_
          refine lv_iload hx hb dL_act_101 (lv_at hl 1 rfl) ?_
          refine lv_bipush (v := 100) hx hb dL_act_103 (by decide) ?_
          refine cx_rm (vx_runSW (As := [.ref (ad 0), .int (nI k), .int 100]) (rest := []) ⟨hx, hb, hml, hown, hts⟩ (h_set_t2 l D T ad (pushI I nx ct) (mixR (updR (pushR (updR R 20 (upd (R 20) k v)) nx) 0 (upd ((R 0)) k v)) (updR R 20 (upd (R 20) k v))) hlt k 100 (hk) (by decide)) (vx_cwSW 3 hts gL_act_L_set rfl rfl rfl (by decide +kernel) ⟨Nat.le_of_ble_eq_true rfl, Nat.le_of_ble_eq_true rfl⟩) ⟨XN.blind, XN.pre (pw_c hP) hK hN hXU hXZ hNc hS rfl⟩ rfl rfl hl.1 rfl (lv_room (Nat.le_of_ble_eq_true rfl)) dL_act_105 ⟨Nat.le_of_ble_eq_true rfl, Nat.le_of_ble_eq_true rfl⟩) hS (fun H locs hkk hS => ?_)
          have hP := cx_keep hP hkk
          refine W.widen (k := 2) (n := 12) (by decide) (by decide) ?_
          refine lv_bipush (v := (-32)) hx hb dL_act_108 (by decide) ?_
          refine lv_icmp_ne (tgt := 130) hx hb dL_act_110 (by decide) (fun c_110 => absurd c_110 (by decide)) (fun c_110 => ?_)
          refine lv_aload_n hx hb dL_act_113 rfl (lv_at hl 3 rfl) ?_
          refine lv_iload hx hb dL_act_114 (lv_at hl 1 rfl) ?_
          refine lv_bipush (v := (-100)) hx hb dL_act_116 (by decide) ?_
          refine cx_rm (vx_runSW (As := [.ref (ad 0), .int (nI k), .int (-100)]) (rest := []) ⟨hx, hb, hml, hown, hts⟩ (h_set_t2 l D T ad (pushI I nx ct) (mixR (updR (pushR (updR R 20 (upd (R 20) k v)) nx) 0 (upd ((R 0)) k v)) (updR R 20 (upd (R 20) k v))) hlt k (-100) (hk) (by decide)) (vx_cwSW 3 hts gL_act_L_set rfl rfl rfl (by decide +kernel) ⟨Nat.le_of_ble_eq_true rfl, Nat.le_of_ble_eq_true rfl⟩) ⟨XN.blind, XN.pre (pw_c hP) hK hN hXU hXZ hNc hS rfl⟩ rfl rfl hl.1 rfl (lv_room (Nat.le_of_ble_eq_true rfl)) dL_act_118 ⟨Nat.le_of_ble_eq_true rfl, Nat.le_of_ble_eq_true rfl⟩) hS (fun H locs hkk hS => ?_)
          have hP := cx_keep hP hkk
          refine W.widen (k := 3) (n := 18) (by decide) (by decide) ?_
          refine lv_bipush (v := (-32)) hx hb dL_act_121 (by decide) ?_
          refine lv_icmp_ne (tgt := 130) hx hb dL_act_123 (by decide) (fun c_123 => absurd c_123 (by decide)) (fun c_123 => ?_)
          refine lv_iconst (v := 1) hx hb dL_act_126 (by decide) ?_
          refine lv_goto (tgt := 131) hx hb dL_act_127 (by decide) ?_
          have j0 : lm < 256 := hm
          have j4 : (pushI I nx ct) 4 = nI lm := pushI_4.trans hI
          have j1 : (pushI I nx ct) 1 = nI ((nx + 1) % 6) := pu_1
          have j2 : (pushI I nx ct) 2 = nI (min (ct + 1) 6) := pu_2
          have k0 : (updR (pushR (updR R 20 (upd (R 20) k v)) nx) 0 (upd ((R 0)) k v)) 0 = (updR R 20 (upd (R 20) k v)) 20 := by rw [ur_eq, ur_eq, h0]
          have k1 : (updR (pushR (updR R 20 (upd (R 20) k v)) nx) 0 (upd ((R 0)) k v)) 1 = (updR R 20 (upd (R 20) k v)) 22 := by rw [ur_ne (by decide), pushR_k hnx (by omega), ur_ne (by decide), ur_ne (by decide), h1]
          have kb : (updR R 20 (upd (R 20) k v)) 21 = lbI lm := by rw [ur_ne (by decide)]; exact hb1
          have j5 : (pushI I nx ct) 5 = (updR R 20 (upd (R 20) k v)) 24 0 := by rw [ur_ne (by decide)]; exact pushI_5.trans h5
          have ka : BdA ((updR R 20 (upd (R 20) k v)) 20) := by rw [ur_eq]; exact bd_st hbd hv
          have kp : BdP ((updR R 20 (upd (R 20) k v)) 22) := by rw [ur_ne (by decide)]; exact hbp
          exact W.zret (v := 1) hx hb hr (rfl) (fun t ht hW => ⟨⟨1, ((pushI I nx ct), (mixR (updR (pushR (updR R 20 (upd (R 20) k v)) nx) 0 (upd ((R 0)) k v)) (updR R 20 (upd (R 20) k v))), lm, (nx + 1) % 6, min (ct + 1) 6), rfl, ⟨rfl, jl_mix j0 j4 j1 j2 k0 k1 kb j5 ka kp⟩, by show va_P _ _ _ _; rw [ht]; exact hP⟩, hS.F ht⟩) hS.2.2 dL_act_131
      · exact absurd c_60 c_40
    · refine lv_bipush (v := 21) hx hb dL_act_43 (by decide) ?_
      refine lv_goto (tgt := 51) hx hb dL_act_45 (by decide) ?_
      refine cx_ri (va_runS (As := [.int (y >>> (3 &&& 31)), .int 21]) (rest := [.int (nI k), .ref (ad 34)]) ⟨hx, hb, hml, hown, hts⟩ (c_L_low l  (y >>> (3 &&& 31)) 21 (by decide) (by decide)) (va_cwS 2 hts gL_act_L_low rfl rfl rfl (by decide +kernel) ⟨Nat.le_of_ble_eq_true rfl, Nat.le_of_ble_eq_true rfl⟩) ⟨pc_blind, (fun U hU hW => ⟨rfl, trivial⟩)⟩ rfl rfl hl.1 rfl (lv_room (Nat.le_of_ble_eq_true rfl)) dL_act_51 ⟨Nat.le_of_ble_eq_true rfl, Nat.le_of_ble_eq_true rfl⟩) hS hP (fun H locs hP hS => ?_)
      refine lv_iload_n hx hb dL_act_54 rfl (lv_at hl 5 rfl) ?_
      refine lv_bipush (v := 20) hx hb dL_act_55 (by decide) ?_
      refine lv_ishr hx hb dL_act_57 ?_
      refine lv_iconst (v := 1) hx hb dL_act_58 (by decide) ?_
      refine lv_iand hx hb dL_act_59 ?_
      refine lv_if_ne (tgt := 68) hx hb dL_act_60 (by decide) (fun c_60 => ?_) (fun c_60 => ?_)
      · exact absurd c_40 c_60
      · refine lv_bipush (v := 10) hx hb dL_act_63 (by decide) ?_
        refine lv_goto (tgt := 70) hx hb dL_act_65 (by decide) ?_
        refine lv_isub hx hb dL_act_70 ?_
        obtain ⟨v, ev, hv⟩ : ∃ z, ((nI (loN (y >>> (3 &&& 31)) % 21)) - 10) = z ∧ outI z (-99) 99 = 0 := ⟨_, rfl, so_s (n := 21) (c := 10) (Nat.mod_lt _ (by decide)) (by decide) (by decide)⟩
        refine cx_top ev ?_
        refine cx_iast (k := k) hx hb hK hP (hD _ _) hS 34 1 pw_34 rfl (hk) (by decide) pw_R20 dL_act_71 (fun H locs hP hS => ?_)
        refine lv_aload_n hx hb dL_act_72 rfl (lv_at hl 3 rfl) ?_
        refine lv_iload hx hb dL_act_73 (lv_at hl 1 rfl) ?_
        refine lv_aload_n hx hb dL_act_75 rfl (lv_at hl 6 rfl) ?_
        refine lv_iload hx hb dL_act_76 (lv_at hl 1 rfl) ?_
        refine cx_iald (k := k) hx hb hK hP 34 1 pw_34 rfl (hk) (by decide) dL_act_78 ?_
        refine cx_top (y := ((upd (R 20) k v) k)) rfl ?_
        refine cx_top (show ((upd (R 20) k v) k) = v from up_eq) ?_
        refine cx_wi (vx_runSW (As := [.ref (ad 0), .int (nI k), .int v]) (rest := []) ⟨hx, hb, hml, hown, hts⟩ (h_set l D T ad I (updR R 20 (upd (R 20) k v)) _ nx ct k v (AD_le hAD (by decide)) (hnx) (hct) (hI1) (hI2) (hk) (hv)) (vx_cwSW 3 hts gL_act_L_set rfl rfl rfl (by decide +kernel) ⟨Nat.le_of_ble_eq_true rfl, Nat.le_of_ble_eq_true rfl⟩) ⟨CB.blind, CB.pre (pw_c hP) hK hN rfl⟩ rfl rfl hl.1 rfl (lv_room (Nat.le_of_ble_eq_true rfl)) dL_act_79 ⟨Nat.le_of_ble_eq_true rfl, Nat.le_of_ble_eq_true rfl⟩) hS (cA_sub (fun j hj => cA_in (by omega)) (fun q hq => cA_new (Nat.le_trans hS.1 hq))) (cA_sub (fun j hj => cA_in (by omega)) (fun q hq => cA_new (Nat.le_trans hS.1 hq))) (fun u_79 H locs hu_79 hP1 hkk hS => ?_)
        refine cx_top (y := ((R 0) k)) rfl ?_
        have hP := pw_join hAD hP hkk hP1
        refine lv_iload hx hb dL_act_82 (lv_at hl 0 rfl) ?_
        refine lv_icmp_ne (tgt := 130) hx hb dL_act_84 (by decide) (fun c_84 => ?_) (fun c_84 => ?_)
        · exact absurd (congrFun h0 k) c_84
        · refine lv_aload_n hx hb dL_act_87 rfl (lv_at hl 3 rfl) ?_
          refine lv_bipush (v := 8) hx hb dL_act_88 (by decide) ?_
          refine lv_bipush (v := 100) hx hb dL_act_90 (by decide) ?_
          refine cx_rm (vx_runSW (As := [.ref (ad 0), .int 8, .int 100]) (rest := []) ⟨hx, hb, hml, hown, hts⟩ (h_set_t1 l D T ad (pushI I nx ct) (mixR (updR (pushR (updR R 20 (upd (R 20) k v)) nx) 0 (upd ((R 0)) k v)) (updR R 20 (upd (R 20) k v))) hlt 8 100 (by decide)) (vx_cwSW 3 hts gL_act_L_set rfl rfl rfl (by decide +kernel) ⟨Nat.le_of_ble_eq_true rfl, Nat.le_of_ble_eq_true rfl⟩) ⟨XN.blind, XN.pre (pw_c hP) hK hN hXU hXZ hNc hS rfl⟩ rfl rfl hl.1 rfl (lv_room (Nat.le_of_ble_eq_true rfl)) dL_act_92 ⟨Nat.le_of_ble_eq_true rfl, Nat.le_of_ble_eq_true rfl⟩) hS (fun H locs hkk hS => ?_)
          have hP := cx_keep hP hkk
          refine W.widen (k := 1) (n := 6) (by decide) (by decide) ?_
          refine lv_bipush (v := (-31)) hx hb dL_act_95 (by decide) ?_
          refine lv_icmp_ne (tgt := 130) hx hb dL_act_97 (by decide) (fun c_97 => absurd c_97 (by decide)) (fun c_97 => ?_)
          refine lv_aload_n hx hb dL_act_100 rfl (lv_at hl 3 rfl) ?_
          refine lv_iload hx hb dL_act_101 (lv_at hl 1 rfl) ?_
          refine lv_bipush (v := 100) hx hb dL_act_103 (by decide) ?_
          refine cx_rm (vx_runSW (As := [.ref (ad 0), .int (nI k), .int 100]) (rest := []) ⟨hx, hb, hml, hown, hts⟩ (h_set_t2 l D T ad (pushI I nx ct) (mixR (updR (pushR (updR R 20 (upd (R 20) k v)) nx) 0 (upd ((R 0)) k v)) (updR R 20 (upd (R 20) k v))) hlt k 100 (hk) (by decide)) (vx_cwSW 3 hts gL_act_L_set rfl rfl rfl (by decide +kernel) ⟨Nat.le_of_ble_eq_true rfl, Nat.le_of_ble_eq_true rfl⟩) ⟨XN.blind, XN.pre (pw_c hP) hK hN hXU hXZ hNc hS rfl⟩ rfl rfl hl.1 rfl (lv_room (Nat.le_of_ble_eq_true rfl)) dL_act_105 ⟨Nat.le_of_ble_eq_true rfl, Nat.le_of_ble_eq_true rfl⟩) hS (fun H locs hkk hS => ?_)
          have hP := cx_keep hP hkk
          refine W.widen (k := 2) (n := 12) (by decide) (by decide) ?_
          refine lv_bipush (v := (-32)) hx hb dL_act_108 (by decide) ?_
          refine lv_icmp_ne (tgt := 130) hx hb dL_act_110 (by decide) (fun c_110 => absurd c_110 (by decide)) (fun c_110 => ?_)
          refine lv_aload_n hx hb dL_act_113 rfl (lv_at hl 3 rfl) ?_
          refine lv_iload hx hb dL_act_114 (lv_at hl 1 rfl) ?_
          refine lv_bipush (v := (-100)) hx hb dL_act_116 (by decide) ?_
          refine cx_rm (vx_runSW (As := [.ref (ad 0), .int (nI k), .int (-100)]) (rest := []) ⟨hx, hb, hml, hown, hts⟩ (h_set_t2 l D T ad (pushI I nx ct) (mixR (updR (pushR (updR R 20 (upd (R 20) k v)) nx) 0 (upd ((R 0)) k v)) (updR R 20 (upd (R 20) k v))) hlt k (-100) (hk) (by decide)) (vx_cwSW 3 hts gL_act_L_set rfl rfl rfl (by decide +kernel) ⟨Nat.le_of_ble_eq_true rfl, Nat.le_of_ble_eq_true rfl⟩) ⟨XN.blind, XN.pre (pw_c hP) hK hN hXU hXZ hNc hS rfl⟩ rfl rfl hl.1 rfl (lv_room (Nat.le_of_ble_eq_true rfl)) dL_act_118 ⟨Nat.le_of_ble_eq_true rfl, Nat.le_of_ble_eq_true rfl⟩) hS (fun H locs hkk hS => ?_)
          have hP := cx_keep hP hkk
          refine W.widen (k := 3) (n := 18) (by decide) (by decide) ?_
          refine lv_bipush (v := (-32)) hx hb dL_act_121 (by decide) ?_
          refine lv_icmp_ne (tgt := 130) hx hb dL_act_123 (by decide) (fun c_123 => absurd c_123 (by decide)) (fun c_123 => ?_)
          refine lv_iconst (v := 1) hx hb dL_act_126 (by decide) ?_
          refine lv_goto (tgt := 131) hx hb dL_act_127 (by decide) ?_
          have j0 : lm < 256 := hm
          have j4 : (pushI I nx ct) 4 = nI lm := pushI_4.trans hI
          have j1 : (pushI I nx ct) 1 = nI ((nx + 1) % 6) := pu_1
          have j2 : (pushI I nx ct) 2 = nI (min (ct + 1) 6) := pu_2
          have k0 : (updR (pushR (updR R 20 (upd (R 20) k v)) nx) 0 (upd ((R 0)) k v)) 0 = (updR R 20 (upd (R 20) k v)) 20 := by rw [ur_eq, ur_eq, h0]
          have k1 : (updR (pushR (updR R 20 (upd (R 20) k v)) nx) 0 (upd ((R 0)) k v)) 1 = (updR R 20 (upd (R 20) k v)) 22 := by rw [ur_ne (by decide), pushR_k hnx (by omega), ur_ne (by decide), ur_ne (by decide), h1]
          have kb : (updR R 20 (upd (R 20) k v)) 21 = lbI lm := by rw [ur_ne (by decide)]; exact hb1
          have j5 : (pushI I nx ct) 5 = (updR R 20 (upd (R 20) k v)) 24 0 := by rw [ur_ne (by decide)]; exact pushI_5.trans h5
          have ka : BdA ((updR R 20 (upd (R 20) k v)) 20) := by rw [ur_eq]; exact bd_st hbd hv
          have kp : BdP ((updR R 20 (upd (R 20) k v)) 22) := by rw [ur_ne (by decide)]; exact hbp
          exact W.zret (v := 1) hx hb hr (rfl) (fun t ht hW => ⟨⟨1, ((pushI I nx ct), (mixR (updR (pushR (updR R 20 (upd (R 20) k v)) nx) 0 (upd ((R 0)) k v)) (updR R 20 (upd (R 20) k v))), lm, (nx + 1) % 6, min (ct + 1) 6), rfl, ⟨rfl, jl_mix j0 j4 j1 j2 k0 k1 kb j5 ka kp⟩, by show va_P _ _ _ _; rw [ht]; exact hP⟩, hS.F ht⟩) hS.2.2 dL_act_131

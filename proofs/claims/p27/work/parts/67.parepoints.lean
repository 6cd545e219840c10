set_option maxHeartbeats 4000000 in
set_option maxRecDepth 100000 in
theorem c_L_arePoints (l : Launch) (D : va_G) (T : Nat → ClassId) (ad : Nat → Nat) (I : Nat → Int32) (R : Nat → Nat → Int32) (sz : Nat) (lm : Nat) (hAD : AD 39 ad) (hm : lm < 256) (hI : I 4 = nI lm) (h0 : R 0 = R 20) (h1 : R 1 = R 22) (hb1 : R 21 = lbI lm) (hbd : BdA (R 20)) (hbp : BdP (R 22)) (ht : R 23 = fun n => trS (dr (R 20) lm) n 8) : Met l yL_arePoints wsL_arePoints ({ frames := 7, cells := 1, slots := 8, locals := 150 }) (va_Pc [.ref (ad 0), .ref (ad 34), .ref (ad 35), .ref (ad 36), .ref (ad 37)] (PB D T ad I R sz)) (va_Qi (fun r (u : Nat → Int32) => r = 1 ∧ True) (fun (u : Nat → Int32) t => va_P D vwCl (pw T ad I (updR R 19 u)) t.heap) (cA 39 ad sz)) 1 8 (cA 39 ad sz) := by
  refine Met.ofW (cc := cL_arePoints) (maxL := 13) (ret := (some .boolean)) (by decide) rfl ?_
  intro p e s m args_ below meth c s₁ B hml hv
  obtain ⟨rfl, hsz, hP, hK, hN, hXU, hXZ, hNc⟩ := hv
  have hx := B.exec
  have hb := B.bytes
  have hr := B.returns
  have hts := atoms_spec (ws := wsL_arePoints) B.pre
  have hown : s.vm.findClass RL = some m.cls := findClass_of_methodNamed B.named
  have hlocks := B.notSynchronized
  subst hsz
  have hS : va_S (cA 39 ad s.heap.size) s.heap s.heap [] := va_S.rf
  have hD : ∀ I R, va_D (cA 39 ad s.heap.size) (pw T ad I R) := fun I R => pw_D hAD (fun k hk => cA_in hk)
  have hl := lv_entry ([.ref (ad 0), .ref (ad 34), .ref (ad 35), .ref (ad 36), .ref (ad 37)]) (n := 13) (Nat.le_of_ble_eq_true rfl)
  rw [lg_entry_eq]
  generalize (lg_sl ([.ref (ad 0), .ref (ad 34), .ref (ad 35), .ref (ad 36), .ref (ad 37)]) ++ List.replicate (13 - (lg_sl ([.ref (ad 0), .ref (ad 34), .ref (ad 35), .ref (ad 36), .ref (ad 37)])).length) Slot.unset).toArray = ls at hl ⊢
  have hl : lv_has ls 13 [(0, .ref (ad 0)), (1, .ref (ad 34)), (2, .ref (ad 35)), (3, .ref (ad 36)), (4, .ref (ad 37))] := hl
  have hda := dr_bd hbd lm
  refine lv_sipush (v := (-9999)) hx hb dL_arePoints_0 (by decide) ?_
  refine lv_istore (lv' := [(5, .int (-9999)), (0, .ref (ad 0)), (1, .ref (ad 34)), (2, .ref (ad 35)), (3, .ref (ad 36)), (4, .ref (ad 37))]) hx hb dL_arePoints_3 hl (by decide) rfl (fun ls hl => ?_)
  refine lv_sipush (v := 9999) hx hb dL_arePoints_5 (by decide) ?_
  refine lv_istore (lv' := [(6, .int 9999), (5, .int (-9999)), (0, .ref (ad 0)), (1, .ref (ad 34)), (2, .ref (ad 35)), (3, .ref (ad 36)), (4, .ref (ad 37))]) hx hb dL_arePoints_8 hl (by decide) rfl (fun ls hl => ?_)
  refine lv_iconst (v := 0) hx hb dL_arePoints_10 (by decide) ?_
  refine lv_istore (lv' := [(7, .int 0), (6, .int 9999), (5, .int (-9999)), (0, .ref (ad 0)), (1, .ref (ad 34)), (2, .ref (ad 35)), (3, .ref (ad 36)), (4, .ref (ad 37))]) hx hb dL_arePoints_11 hl (by decide) rfl (fun ls hl => ?_)
  refine lv_iconst (v := 0) hx hb dL_arePoints_13 (by decide) ?_
  refine lv_istore (lv' := [(8, .int 0), (7, .int 0), (6, .int 9999), (5, .int (-9999)), (0, .ref (ad 0)), (1, .ref (ad 34)), (2, .ref (ad 35)), (3, .ref (ad 36)), (4, .ref (ad 37))]) hx hb dL_arePoints_14 hl (by decide) rfl (fun ls hl => ?_)
  refine lv_iconst (v := 0) hx hb dL_arePoints_16 (by decide) ?_
  refine lv_istore (lv' := [(9, .int 0), (8, .int 0), (7, .int 0), (6, .int 9999), (5, .int (-9999)), (0, .ref (ad 0)), (1, .ref (ad 34)), (2, .ref (ad 35)), (3, .ref (ad 36)), (4, .ref (ad 37))]) hx hb dL_arePoints_17 hl (by decide) rfl (fun ls hl => ?_)
  suffices ih_19 : ∀ (fu : Nat) (i : Nat) (f : Nat → Int32) (H : Heap) (locs : List Loc) (ls : Array Slot), 8 - i < fu → (i ≤ 8) → va_P D vwCl (pw T ad I (updR R 19 f)) H →  va_S (cA 39 ad s.heap.size) s.heap H locs → lv_has ls 13 [(0, .ref (ad 0)), (1, .ref (ad 34)), (2, .ref (ad 35)), (3, .ref (ad 36)), (4, .ref (ad 37)), (5, .int (mgS (dr (R 20) lm) i)), (6, .int (mnS (dr (R 20) lm) i)), (7, .int (gaS (diF (R 22) (dr (R 20) lm)) i)), (8, .int (gaS (juF (dr (R 20) lm)) i)), (9, .int (nI i))] → W p l e (headSpec wsL_arePoints ({ frames := 7, cells := 1, slots := 8, locals := 150 })).room s m ([.ref (ad 0), .ref (ad 34), .ref (ad 35), .ref (ad 36), .ref (ad 37)] : List Value).toArray below meth c H locs 0 0 (MQ below (va_Qi (fun r (u : Nat → Int32) => r = 1 ∧ True) (fun (u : Nat → Int32) t => va_P D vwCl (pw T ad I (updR R 19 u)) t.heap) (cA 39 ad s.heap.size)) ([.ref (ad 0), .ref (ad 34), .ref (ad 35), .ref (ad 36), .ref (ad 37)] : List Value).toArray s 1 8 (cA 39 ad s.heap.size)) (F0 m 19 ls []) from
    ih_19 _ 0 (R 19) _ _ _ (Nat.lt_succ_self _) (by omega) (selfP hP) hS (lv_sub hl [5, 6, 7, 8, 9, 4, 3, 2, 1, 0] rfl)
  intro fu
  induction fu with
  | zero => intro i f H locs ls hfu; exact absurd hfu (Nat.not_lt_zero _)
  | succ fu ih_19 =>
    intro i f H locs ls hfu hi hP hS hl
    refine lv_iload hx hb dL_arePoints_19 (lv_at hl 9 rfl) ?_
    refine lv_bipush (v := 8) hx hb dL_arePoints_21 (by decide) ?_
    refine lv_icmp_ge (tgt := 240) hx hb dL_arePoints_23 (by decide) (fun c_23 => ?_) (fun c_23 => ?_)
    · have c_23 : 8 ≤ i := (nI_leI (a := 8) (b := i) (by omega) (by omega)).mp c_23
      obtain rfl : i = 8 := by omega
      refine lv_iload hx hb dL_arePoints_240 (lv_at hl 5 rfl) ?_
      refine cx_ri (va_runS (As := [.int (mgS (dr (R 20) lm) 8)]) (rest := []) ⟨hx, hb, hml, hown, hts⟩ (c_L_amount l  (mgS (dr (R 20) lm) 8)) (va_cwS 1 hts gL_arePoints_L_amount rfl rfl rfl (by decide +kernel) ⟨Nat.le_of_ble_eq_true rfl, Nat.le_of_ble_eq_true rfl⟩) ⟨pc_blind, (fun U hU hW => ⟨rfl, trivial⟩)⟩ rfl rfl hl.1 rfl (lv_room (Nat.le_of_ble_eq_true rfl)) dL_arePoints_242 ⟨Nat.le_of_ble_eq_true rfl, Nat.le_of_ble_eq_true rfl⟩) hS hP (fun H locs hP hS => ?_)
      refine lv_iload hx hb dL_arePoints_245 (lv_at hl 6 rfl) ?_
      refine cx_ri (va_runS (As := [.int (mnS (dr (R 20) lm) 8)]) (rest := [.int (abI (mgS (dr (R 20) lm) 8))]) ⟨hx, hb, hml, hown, hts⟩ (c_L_amount l  (mnS (dr (R 20) lm) 8)) (va_cwS 1 hts gL_arePoints_L_amount rfl rfl rfl (by decide +kernel) ⟨Nat.le_of_ble_eq_true rfl, Nat.le_of_ble_eq_true rfl⟩) ⟨pc_blind, (fun U hU hW => ⟨rfl, trivial⟩)⟩ rfl rfl hl.1 rfl (lv_room (Nat.le_of_ble_eq_true rfl)) dL_arePoints_247 ⟨Nat.le_of_ble_eq_true rfl, Nat.le_of_ble_eq_true rfl⟩) hS hP (fun H locs hP hS => ?_)
      refine lv_icmp_le (tgt := 261) hx hb dL_arePoints_250 (by decide) (fun c_250 => ?_) (fun c_250 => ?_)
      · refine lv_iload hx hb dL_arePoints_261 (lv_at hl 6 rfl) ?_
        refine cx_ri (va_runS (As := [.int (mnS (dr (R 20) lm) 8)]) (rest := []) ⟨hx, hb, hml, hown, hts⟩ (c_L_amount l  (mnS (dr (R 20) lm) 8)) (va_cwS 1 hts gL_arePoints_L_amount rfl rfl rfl (by decide +kernel) ⟨Nat.le_of_ble_eq_true rfl, Nat.le_of_ble_eq_true rfl⟩) ⟨pc_blind, (fun U hU hW => ⟨rfl, trivial⟩)⟩ rfl rfl hl.1 rfl (lv_room (Nat.le_of_ble_eq_true rfl)) dL_arePoints_263 ⟨Nat.le_of_ble_eq_true rfl, Nat.le_of_ble_eq_true rfl⟩) hS hP (fun H locs hP hS => ?_)
        refine cx_top (show (abI (mnS (dr (R 20) lm) 8)) = (ovL (dr (R 20) lm)) from ov_t c_250) ?_
        refine lv_istore (lv' := [(9, .int (ovL (dr (R 20) lm))), (0, .ref (ad 0)), (1, .ref (ad 34)), (2, .ref (ad 35)), (3, .ref (ad 36)), (4, .ref (ad 37)), (5, .int (mgS (dr (R 20) lm) 8)), (6, .int (mnS (dr (R 20) lm) 8)), (7, .int (gaS (diF (R 22) (dr (R 20) lm)) 8)), (8, .int (gaS (juF (dr (R 20) lm)) 8))]) hx hb dL_arePoints_266 hl (by decide) rfl (fun ls hl => ?_)
        refine lv_bipush (v := 8) hx hb dL_arePoints_268 (by decide) ?_
        refine cx_newi hx hb (hts (.arrayClass .int) (by decide +kernel)) hK hP (hD _ _) hS (fun q h => cA_new h) 8 (by decide) rfl (by decide) (Nat.le_of_ble_eq_true rfl) (Nat.le_of_ble_eq_true rfl) dL_arePoints_270 (fun aq H hP hD9 hS => ?_)
        have hP := qw_new hP
        have hQ := qw_AD (qw_newD hD9)
        clear hD9 hD
        have hD : ∀ I R, va_D (cA 39 ad s.heap.size) (qw T (adq ad aq) I R) := fun I R => qw_D hQ.1 hQ.2
        have hl : lv_has ls 13 [(9, .int (ovL (dr (R 20) lm))), (0, .ref ((adq ad aq) 0)), (1, .ref ((adq ad aq) 34)), (2, .ref ((adq ad aq) 35)), (3, .ref ((adq ad aq) 36)), (4, .ref ((adq ad aq) 37)), (5, .int (mgS (dr (R 20) lm) 8)), (6, .int (mnS (dr (R 20) lm) 8)), (7, .int (gaS (diF (R 22) (dr (R 20) lm)) 8)), (8, .int (gaS (juF (dr (R 20) lm)) 8))] := hl
        refine W.widen (k := 1) (n := 8) (by decide) (by decide) ?_
        refine lv_astore (lv' := [(10, .ref ((adq ad aq) 39)), (9, .int (ovL (dr (R 20) lm))), (0, .ref ((adq ad aq) 0)), (1, .ref ((adq ad aq) 34)), (2, .ref ((adq ad aq) 35)), (3, .ref ((adq ad aq) 36)), (4, .ref ((adq ad aq) 37)), (5, .int (mgS (dr (R 20) lm) 8)), (6, .int (mnS (dr (R 20) lm) 8)), (7, .int (gaS (diF (R 22) (dr (R 20) lm)) 8)), (8, .int (gaS (juF (dr (R 20) lm)) 8))]) hx hb dL_arePoints_272 hl (by decide) rfl (fun ls hl => ?_)
        refine lv_iconst (v := 0) hx hb dL_arePoints_274 (by decide) ?_
        refine lv_istore (lv' := [(11, .int 0), (10, .ref ((adq ad aq) 39)), (9, .int (ovL (dr (R 20) lm))), (0, .ref ((adq ad aq) 0)), (1, .ref ((adq ad aq) 34)), (2, .ref ((adq ad aq) 35)), (3, .ref ((adq ad aq) 36)), (4, .ref ((adq ad aq) 37)), (5, .int (mgS (dr (R 20) lm) 8)), (6, .int (mnS (dr (R 20) lm) 8)), (7, .int (gaS (diF (R 22) (dr (R 20) lm)) 8)), (8, .int (gaS (juF (dr (R 20) lm)) 8))]) hx hb dL_arePoints_275 hl (by decide) rfl (fun ls hl => ?_)
        suffices ih_277 : ∀ (fu : Nat) (j : Nat) (g : Nat → Int32) (H : Heap) (locs : List Loc) (ls : Array Slot), 8 - j < fu → (j ≤ 8) → (∀ k, k < j → g k = (diF (R 22) (dr (R 20) lm)) k) → va_P D vwCl (qw T (adq ad aq) I (updR (updR R 19 f) 25 g)) H →  va_S (cA 39 ad s.heap.size) s.heap H locs → lv_has ls 13 [(0, .ref ((adq ad aq) 0)), (1, .ref ((adq ad aq) 34)), (2, .ref ((adq ad aq) 35)), (3, .ref ((adq ad aq) 36)), (4, .ref ((adq ad aq) 37)), (5, .int (mgS (dr (R 20) lm) 8)), (6, .int (mnS (dr (R 20) lm) 8)), (7, .int (gaS (diF (R 22) (dr (R 20) lm)) 8)), (8, .int (gaS (juF (dr (R 20) lm)) 8)), (9, .int (ovL (dr (R 20) lm))), (10, .ref ((adq ad aq) 39)), (11, .int (nI j))] → W p l e (headSpec wsL_arePoints ({ frames := 7, cells := 1, slots := 8, locals := 150 })).room s m ([.ref (ad 0), .ref (ad 34), .ref (ad 35), .ref (ad 36), .ref (ad 37)] : List Value).toArray below meth c H locs 1 8 (MQ below (va_Qi (fun r (u : Nat → Int32) => r = 1 ∧ True) (fun (u : Nat → Int32) t => va_P D vwCl (pw T ad I (updR R 19 u)) t.heap) (cA 39 ad s.heap.size)) ([.ref (ad 0), .ref (ad 34), .ref (ad 35), .ref (ad 36), .ref (ad 37)] : List Value).toArray s 1 8 (cA 39 ad s.heap.size)) (F0 m 277 ls []) from
          ih_277 _ 0 (fun _ => 0) _ _ _ (Nat.lt_succ_self _) (by omega) (fun k h => absurd h (Nat.not_lt_zero k)) hP hS (lv_sub hl [3, 4, 5, 6, 7, 8, 9, 10, 11, 2, 1, 0] rfl)
        intro fu
        induction fu with
        | zero => intro j g H locs ls hfu; exact absurd hfu (Nat.not_lt_zero _)
        | succ fu ih_277 =>
          intro j g H locs ls hfu hj9 hg hP hS hl
          refine lv_iload hx hb dL_arePoints_277 (lv_at hl 11 rfl) ?_
          refine lv_bipush (v := 8) hx hb dL_arePoints_279 (by decide) ?_
          refine lv_icmp_ge (tgt := 305) hx hb dL_arePoints_281 (by decide) (fun c_281 => ?_) (fun c_281 => ?_)
          · have c_281 : 8 ≤ j := (nI_leI (a := 8) (b := j) (by omega) (by omega)).mp c_281
            obtain rfl : j = 8 := by omega
            refine lv_aload hx hb dL_arePoints_305 (lv_at hl 10 rfl) ?_
            refine cx_wv (va_runS (As := [.ref ((adq ad aq) 39)]) (rest := []) ⟨hx, hb, hml, hown, hts⟩ (c_L_halves l D T (fun _ => (adq ad aq) 39) (fun _ => 0) (fun _ => g) _ AD_1) (va_cwS 1 hts gL_arePoints_L_halves rfl rfl rfl (by decide +kernel) ⟨Nat.le_of_ble_eq_true rfl, Nat.le_of_ble_eq_true rfl⟩) ⟨YB.blind, YB.pre (hw_of (I := fun _ => 0) hP qw_39) hK rfl⟩ rfl rfl hl.1 rfl (lv_room (Nat.le_of_ble_eq_true rfl)) dL_arePoints_307 ⟨Nat.le_of_ble_eq_true rfl, Nat.le_of_ble_eq_true rfl⟩) hS (cA_sub (fun _ _ => hQ.2 39 (by decide)) (fun q hq => cA_new (Nat.le_trans hS.1 hq))) (cA_sub (fun _ _ => hQ.2 39 (by decide)) (fun q hq => cA_new (Nat.le_trans hS.1 hq))) (fun u_307 H locs hu_307 hP1 hkk hS => ?_)
            have hP := hw_join (g := (fun n => trS (diF (R 22) (dr (R 20) lm)) n 8)) hP (hD _ _) qw_39 hkk hP1 (fun j hj => (hu_307 j hj).trans (trS_congr hg)) qw_R25
            have hP := updQ hP
            refine lv_iconst (v := (-1)) hx hb dL_arePoints_310 (by decide) ?_
            refine lv_istore (lv' := [(11, .int (-1)), (0, .ref ((adq ad aq) 0)), (1, .ref ((adq ad aq) 34)), (2, .ref ((adq ad aq) 35)), (3, .ref ((adq ad aq) 36)), (4, .ref ((adq ad aq) 37)), (5, .int (mgS (dr (R 20) lm) 8)), (6, .int (mnS (dr (R 20) lm) 8)), (7, .int (gaS (diF (R 22) (dr (R 20) lm)) 8)), (8, .int (gaS (juF (dr (R 20) lm)) 8)), (9, .int (ovL (dr (R 20) lm))), (10, .ref ((adq ad aq) 39))]) hx hb dL_arePoints_311 hl (by decide) rfl (fun ls hl => ?_)
            refine lv_iconst (v := 0) hx hb dL_arePoints_313 (by decide) ?_
            refine lv_istore (lv' := [(12, .int 0), (11, .int (-1)), (0, .ref ((adq ad aq) 0)), (1, .ref ((adq ad aq) 34)), (2, .ref ((adq ad aq) 35)), (3, .ref ((adq ad aq) 36)), (4, .ref ((adq ad aq) 37)), (5, .int (mgS (dr (R 20) lm) 8)), (6, .int (mnS (dr (R 20) lm) 8)), (7, .int (gaS (diF (R 22) (dr (R 20) lm)) 8)), (8, .int (gaS (juF (dr (R 20) lm)) 8)), (9, .int (ovL (dr (R 20) lm))), (10, .ref ((adq ad aq) 39))]) hx hb dL_arePoints_314 hl (by decide) rfl (fun ls hl => ?_)
            suffices ih_316 : ∀ (fu : Nat) (k : Nat) (H : Heap) (locs : List Loc) (ls : Array Slot), 8 - k < fu → (k ≤ 8) → va_P D vwCl (qw T (adq ad aq) I (updR (updR R 19 f) 25 (fun n => trS (diF (R 22) (dr (R 20) lm)) n 8))) H →  va_S (cA 39 ad s.heap.size) s.heap H locs → lv_has ls 13 [(0, .ref ((adq ad aq) 0)), (1, .ref ((adq ad aq) 34)), (2, .ref ((adq ad aq) 35)), (3, .ref ((adq ad aq) 36)), (4, .ref ((adq ad aq) 37)), (5, .int (mgS (dr (R 20) lm) 8)), (6, .int (mnS (dr (R 20) lm) 8)), (7, .int (gaS (diF (R 22) (dr (R 20) lm)) 8)), (8, .int (gaS (juF (dr (R 20) lm)) 8)), (9, .int (ovL (dr (R 20) lm))), (10, .ref ((adq ad aq) 39)), (11, .int (fdS (fun n => trS (diF (R 22) (dr (R 20) lm)) n 8) k)), (12, .int (nI k))] → W p l e (headSpec wsL_arePoints ({ frames := 7, cells := 1, slots := 8, locals := 150 })).room s m ([.ref (ad 0), .ref (ad 34), .ref (ad 35), .ref (ad 36), .ref (ad 37)] : List Value).toArray below meth c H locs 1 8 (MQ below (va_Qi (fun r (u : Nat → Int32) => r = 1 ∧ True) (fun (u : Nat → Int32) t => va_P D vwCl (pw T ad I (updR R 19 u)) t.heap) (cA 39 ad s.heap.size)) ([.ref (ad 0), .ref (ad 34), .ref (ad 35), .ref (ad 36), .ref (ad 37)] : List Value).toArray s 1 8 (cA 39 ad s.heap.size)) (F0 m 316 ls []) from
              ih_316 _ 0 _ _ _ (Nat.lt_succ_self _) (by omega) hP hS (lv_sub hl [2, 3, 4, 5, 6, 7, 8, 9, 10, 11, 12, 1, 0] rfl)
            intro fu
            induction fu with
            | zero => intro k H locs ls hfu; exact absurd hfu (Nat.not_lt_zero _)
            | succ fu ih_316 =>
              intro k H locs ls hfu hk9 hP hS hl
              refine lv_iload hx hb dL_arePoints_316 (lv_at hl 12 rfl) ?_
              refine lv_bipush (v := 8) hx hb dL_arePoints_318 (by decide) ?_
              refine lv_icmp_ge (tgt := 346) hx hb dL_arePoints_320 (by decide) (fun c_320 => ?_) (fun c_320 => ?_)
              · have c_320 : 8 ≤ k := (nI_leI (a := 8) (b := k) (by omega) (by omega)).mp c_320
                obtain rfl : k = 8 := by omega
                refine lv_aload_n hx hb dL_arePoints_346 rfl (lv_at hl 0 rfl) ?_
                refine lv_iconst (v := 2) hx hb dL_arePoints_347 (by decide) ?_
                refine cx_ri (va_runV (As := [.int 2]) (rest := []) ⟨hx, hb, hml, hown, hts⟩ (c_X3_count l D T (adq ad aq) I (updR (updR R 19 f) 25 (fun n => trS (diF (R 22) (dr (R 20) lm)) n 8)) lm 2 (hm) (hI) (by decide)) (cwV 1 hts gL_arePoints_X3_count rfl rfl rfl (by decide +kernel) ⟨Nat.le_of_ble_eq_true rfl, Nat.le_of_ble_eq_true rfl⟩) ⟨CR.blind, va_recv hK hP (ci := 3) (q0 := 0) rfl qw_0, CR.pre (qw_c hP) hK hN rfl⟩ rfl rfl hl.1 rfl (lv_room (Nat.le_of_ble_eq_true rfl)) dL_arePoints_348 ⟨Nat.le_of_ble_eq_true rfl, Nat.le_of_ble_eq_true rfl⟩) hS hP (fun H locs hP hS => ?_)
                refine cx_top (y := (cnF ((R 0)) ((R 1)) lm (I 5) (I 2) 2)) rfl ?_
                refine lv_iload hx hb dL_arePoints_351 (lv_at hl 5 rfl) ?_
                refine lv_icmp_ne (tgt := 441) hx hb dL_arePoints_353 (by decide) (fun c_353 => ?_) (fun c_353 => ?_)
                · exact absurd (cn2.trans (by rw [h0]; exact (mg_gt hda 7).symm)) c_353
                · refine lv_aload_n hx hb dL_arePoints_356 rfl (lv_at hl 0 rfl) ?_
                  refine lv_iconst (v := 3) hx hb dL_arePoints_357 (by decide) ?_
                  refine cx_ri (va_runV (As := [.int 3]) (rest := []) ⟨hx, hb, hml, hown, hts⟩ (c_X3_count l D T (adq ad aq) I (updR (updR R 19 f) 25 (fun n => trS (diF (R 22) (dr (R 20) lm)) n 8)) lm 3 (hm) (hI) (by decide)) (cwV 1 hts gL_arePoints_X3_count rfl rfl rfl (by decide +kernel) ⟨Nat.le_of_ble_eq_true rfl, Nat.le_of_ble_eq_true rfl⟩) ⟨CR.blind, va_recv hK hP (ci := 3) (q0 := 0) rfl qw_0, CR.pre (qw_c hP) hK hN rfl⟩ rfl rfl hl.1 rfl (lv_room (Nat.le_of_ble_eq_true rfl)) dL_arePoints_358 ⟨Nat.le_of_ble_eq_true rfl, Nat.le_of_ble_eq_true rfl⟩) hS hP (fun H locs hP hS => ?_)
                  refine cx_top (y := (cnF ((R 0)) ((R 1)) lm (I 5) (I 2) 3)) rfl ?_
                  refine lv_iload hx hb dL_arePoints_361 (lv_at hl 6 rfl) ?_
                  refine lv_icmp_ne (tgt := 441) hx hb dL_arePoints_363 (by decide) (fun c_363 => ?_) (fun c_363 => ?_)
                  · exact absurd (cn3.trans (by rw [h0]; exact (mn_lt hda 7).symm)) c_363
                  · refine lv_aload_n hx hb dL_arePoints_366 rfl (lv_at hl 0 rfl) ?_
                    refine lv_iconst (v := 4) hx hb dL_arePoints_367 (by decide) ?_
                    refine cx_ri (va_runV (As := [.int 4]) (rest := []) ⟨hx, hb, hml, hown, hts⟩ (c_X3_count l D T (adq ad aq) I (updR (updR R 19 f) 25 (fun n => trS (diF (R 22) (dr (R 20) lm)) n 8)) lm 4 (hm) (hI) (by decide)) (cwV 1 hts gL_arePoints_X3_count rfl rfl rfl (by decide +kernel) ⟨Nat.le_of_ble_eq_true rfl, Nat.le_of_ble_eq_true rfl⟩) ⟨CR.blind, va_recv hK hP (ci := 3) (q0 := 0) rfl qw_0, CR.pre (qw_c hP) hK hN rfl⟩ rfl rfl hl.1 rfl (lv_room (Nat.le_of_ble_eq_true rfl)) dL_arePoints_368 ⟨Nat.le_of_ble_eq_true rfl, Nat.le_of_ble_eq_true rfl⟩) hS hP (fun H locs hP hS => ?_)
                    refine cx_top (y := (cnF ((R 0)) ((R 1)) lm (I 5) (I 2) 4)) rfl ?_
                    refine lv_iload hx hb dL_arePoints_371 (lv_at hl 7 rfl) ?_
                    refine lv_icmp_ne (tgt := 441) hx hb dL_arePoints_373 (by decide) (fun c_373 => ?_) (fun c_373 => ?_)
                    · exact absurd (cn4.trans (by rw [h0, h1])) c_373
                    · refine lv_aload_n hx hb dL_arePoints_376 rfl (lv_at hl 0 rfl) ?_
                      refine lv_iconst (v := 5) hx hb dL_arePoints_377 (by decide) ?_
                      refine cx_ri (va_runV (As := [.int 5]) (rest := []) ⟨hx, hb, hml, hown, hts⟩ (c_X3_count l D T (adq ad aq) I (updR (updR R 19 f) 25 (fun n => trS (diF (R 22) (dr (R 20) lm)) n 8)) lm 5 (hm) (hI) (by decide)) (cwV 1 hts gL_arePoints_X3_count rfl rfl rfl (by decide +kernel) ⟨Nat.le_of_ble_eq_true rfl, Nat.le_of_ble_eq_true rfl⟩) ⟨CR.blind, va_recv hK hP (ci := 3) (q0 := 0) rfl qw_0, CR.pre (qw_c hP) hK hN rfl⟩ rfl rfl hl.1 rfl (lv_room (Nat.le_of_ble_eq_true rfl)) dL_arePoints_378 ⟨Nat.le_of_ble_eq_true rfl, Nat.le_of_ble_eq_true rfl⟩) hS hP (fun H locs hP hS => ?_)
                      refine cx_top (y := (cnF ((R 0)) ((R 1)) lm (I 5) (I 2) 5)) rfl ?_
                      refine lv_iload hx hb dL_arePoints_381 (lv_at hl 8 rfl) ?_
                      refine lv_icmp_ne (tgt := 441) hx hb dL_arePoints_383 (by decide) (fun c_383 => ?_) (fun c_383 => ?_)
                      · exact absurd (cn5.trans (by rw [h0])) c_383
                      · refine lv_aload_n hx hb dL_arePoints_386 rfl (lv_at hl 0 rfl) ?_
                        refine lv_bipush (v := 6) hx hb dL_arePoints_387 (by decide) ?_
                        refine cx_ri (va_runV (As := [.int 6]) (rest := []) ⟨hx, hb, hml, hown, hts⟩ (c_X3_count l D T (adq ad aq) I (updR (updR R 19 f) 25 (fun n => trS (diF (R 22) (dr (R 20) lm)) n 8)) lm 6 (hm) (hI) (by decide)) (cwV 1 hts gL_arePoints_X3_count rfl rfl rfl (by decide +kernel) ⟨Nat.le_of_ble_eq_true rfl, Nat.le_of_ble_eq_true rfl⟩) ⟨CR.blind, va_recv hK hP (ci := 3) (q0 := 0) rfl qw_0, CR.pre (qw_c hP) hK hN rfl⟩ rfl rfl hl.1 rfl (lv_room (Nat.le_of_ble_eq_true rfl)) dL_arePoints_389 ⟨Nat.le_of_ble_eq_true rfl, Nat.le_of_ble_eq_true rfl⟩) hS hP (fun H locs hP hS => ?_)
                        refine cx_top (y := (cnF ((R 0)) ((R 1)) lm (I 5) (I 2) 6)) rfl ?_
                        refine lv_iload hx hb dL_arePoints_392 (lv_at hl 9 rfl) ?_
                        refine lv_aload_n hx hb dL_arePoints_394 rfl (lv_at hl 2 rfl) ?_
                        refine lv_iconst (v := 0) hx hb dL_arePoints_395 (by decide) ?_
                        refine cx_iald (k := 0) hx hb hK hP 35 1 qw_35 rfl (by decide) (by decide) dL_arePoints_396 ?_
                        refine cx_top (y := ((R 21) 0)) rfl ?_
                        refine lv_iconst (v := 1) hx hb dL_arePoints_397 (by decide) ?_
                        refine lv_icmp_ne (tgt := 405) hx hb dL_arePoints_398 (by decide) (fun c_398 => ?_) (fun c_398 => ?_)
                        · refine lv_aload_n hx hb dL_arePoints_405 rfl (lv_at hl 1 rfl) ?_
                          refine lv_iconst (v := 0) hx hb dL_arePoints_406 (by decide) ?_
                          refine cx_iald (k := 0) hx hb hK hP 34 1 qw_34 rfl (by decide) (by decide) dL_arePoints_407 ?_
                          refine cx_top (y := ((R 20) 0)) rfl ?_
                          refine cx_ri (va_runS (As := [.int ((R 20) 0)]) (rest := [.int (ovL (dr (R 20) lm)), .int (cnF ((R 0)) ((R 1)) lm (I 5) (I 2) 6)]) ⟨hx, hb, hml, hown, hts⟩ (c_L_amount l  ((R 20) 0)) (va_cwS 1 hts gL_arePoints_L_amount rfl rfl rfl (by decide +kernel) ⟨Nat.le_of_ble_eq_true rfl, Nat.le_of_ble_eq_true rfl⟩) ⟨pc_blind, (fun U hU hW => ⟨rfl, trivial⟩)⟩ rfl rfl hl.1 rfl (lv_room (Nat.le_of_ble_eq_true rfl)) dL_arePoints_408 ⟨Nat.le_of_ble_eq_true rfl, Nat.le_of_ble_eq_true rfl⟩) hS hP (fun H locs hP hS => ?_)
                          refine lv_isub hx hb dL_arePoints_411 ?_
                          refine lv_icmp_ne (tgt := 441) hx hb dL_arePoints_412 (by decide) (fun c_412 => ?_) (fun c_412 => ?_)
                          · have e_412 : ovF (dr (R 0) lm) = ovL (dr (R 20) lm) - abI (R 20 0) := by rw [h0]; exact ov_a hda (dq_t (a := R 20) (i := 0) hb1 c_398)
                            exact absurd (cn6.trans e_412) c_412
                          · refine lv_aload_n hx hb dL_arePoints_415 rfl (lv_at hl 0 rfl) ?_
                            refine cx_ri (va_runV (As := []) (rest := []) ⟨hx, hb, hml, hown, hts⟩ (c_X3_findLost l D T (adq ad aq) I (updR (updR R 19 f) 25 (fun n => trS (diF (R 22) (dr (R 20) lm)) n 8)) lm (hm) (hI)) (cwV 0 hts gL_arePoints_X3_findLost rfl rfl rfl (by decide +kernel) ⟨Nat.le_of_ble_eq_true rfl, Nat.le_of_ble_eq_true rfl⟩) ⟨CR.blind, va_recv hK hP (ci := 3) (q0 := 0) rfl qw_0, CR.pre (qw_c hP) hK hN rfl⟩ rfl rfl hl.1 rfl (lv_room (Nat.le_of_ble_eq_true rfl)) dL_arePoints_416 ⟨Nat.le_of_ble_eq_true rfl, Nat.le_of_ble_eq_true rfl⟩) hS hP (fun H locs hP hS => ?_)
                            refine cx_top (y := (flF (diF ((R 1)) (dr ((R 0)) lm)))) rfl ?_
                            refine lv_aload hx hb dL_arePoints_419 (lv_at hl 10 rfl) ?_
                            refine cx_ri (va_runS (As := [.ref ((adq ad aq) 39)]) (rest := [.int (flF (diF ((R 1)) (dr ((R 0)) lm)))]) ⟨hx, hb, hml, hown, hts⟩ (c_L_turning l D T (fun _ => (adq ad aq) 39) (fun _ => 0) (fun _ => (fun n => trS (diF (R 22) (dr (R 20) lm)) n 8))) (va_cwS 1 hts gL_arePoints_L_turning rfl rfl rfl (by decide +kernel) ⟨Nat.le_of_ble_eq_true rfl, Nat.le_of_ble_eq_true rfl⟩) ⟨YR.blind, YR.pre (hw_of (I := fun _ => 0) hP qw_39) hK rfl⟩ rfl rfl hl.1 rfl (lv_room (Nat.le_of_ble_eq_true rfl)) dL_arePoints_421 ⟨Nat.le_of_ble_eq_true rfl, Nat.le_of_ble_eq_true rfl⟩) hS hP (fun H locs hP hS => ?_)
                            refine lv_iconst (v := 1) hx hb dL_arePoints_424 (by decide) ?_
                            refine lv_icmp_ne (tgt := 433) hx hb dL_arePoints_425 (by decide) (fun c_425 => ?_) (fun c_425 => ?_)
                            · refine lv_iconst (v := (-1)) hx hb dL_arePoints_433 (by decide) ?_
                              refine lv_icmp_ne (tgt := 441) hx hb dL_arePoints_434 (by decide) (fun c_434 => ?_) (fun c_434 => ?_)
                              · have e_434 : flF (diF (R 1) (dr (R 0) lm)) = -1 := by rw [h0, h1, fl_law (di_bd hbp hda)]; exact if_neg c_425
                                exact absurd e_434 c_434
                              · refine lv_iconst (v := 1) hx hb dL_arePoints_437 (by decide) ?_
                                refine lv_goto (tgt := 442) hx hb dL_arePoints_438 (by decide) ?_
                                exact W.zret (v := 1) hx hb hr (rfl) (fun t ht hW => ⟨⟨1, f, rfl, ⟨rfl, trivial⟩, by show va_P _ _ _ _; rw [ht]; exact (qw_pw hP)⟩, hS.F ht⟩) hS.2.2 dL_arePoints_442
                            · refine lv_iload hx hb dL_arePoints_428 (lv_at hl 11 rfl) ?_
                              refine lv_goto (tgt := 434) hx hb dL_arePoints_430 (by decide) ?_
                              refine lv_icmp_ne (tgt := 441) hx hb dL_arePoints_434 (by decide) (fun c_434 => ?_) (fun c_434 => ?_)
                              · have e_434 : flF (diF (R 1) (dr (R 0) lm)) = fdS (fun n => trS (diF (R 22) (dr (R 20) lm)) n 8) 8 := by rw [h0, h1, fl_law (di_bd hbp hda)]; exact if_pos c_425
                                exact absurd e_434 c_434
                              · refine lv_iconst (v := 1) hx hb dL_arePoints_437 (by decide) ?_
                                refine lv_goto (tgt := 442) hx hb dL_arePoints_438 (by decide) ?_
                                exact W.zret (v := 1) hx hb hr (rfl) (fun t ht hW => ⟨⟨1, f, rfl, ⟨rfl, trivial⟩, by show va_P _ _ _ _; rw [ht]; exact (qw_pw hP)⟩, hS.F ht⟩) hS.2.2 dL_arePoints_442
                        · refine lv_iconst (v := 0) hx hb dL_arePoints_401 (by decide) ?_
                          refine lv_goto (tgt := 411) hx hb dL_arePoints_402 (by decide) ?_
                          refine lv_isub hx hb dL_arePoints_411 ?_
                          refine lv_icmp_ne (tgt := 441) hx hb dL_arePoints_412 (by decide) (fun c_412 => ?_) (fun c_412 => ?_)
                          · have e_412 : ovF (dr (R 0) lm) = ovL (dr (R 20) lm) - 0 := by rw [h0]; exact ov_b hda (dq_f (a := R 20) (i := 0) hb1 c_398)
                            exact absurd (cn6.trans e_412) c_412
                          · refine lv_aload_n hx hb dL_arePoints_415 rfl (lv_at hl 0 rfl) ?_
                            refine cx_ri (va_runV (As := []) (rest := []) ⟨hx, hb, hml, hown, hts⟩ (c_X3_findLost l D T (adq ad aq) I (updR (updR R 19 f) 25 (fun n => trS (diF (R 22) (dr (R 20) lm)) n 8)) lm (hm) (hI)) (cwV 0 hts gL_arePoints_X3_findLost rfl rfl rfl (by decide +kernel) ⟨Nat.le_of_ble_eq_true rfl, Nat.le_of_ble_eq_true rfl⟩) ⟨CR.blind, va_recv hK hP (ci := 3) (q0 := 0) rfl qw_0, CR.pre (qw_c hP) hK hN rfl⟩ rfl rfl hl.1 rfl (lv_room (Nat.le_of_ble_eq_true rfl)) dL_arePoints_416 ⟨Nat.le_of_ble_eq_true rfl, Nat.le_of_ble_eq_true rfl⟩) hS hP (fun H locs hP hS => ?_)
                            refine cx_top (y := (flF (diF ((R 1)) (dr ((R 0)) lm)))) rfl ?_
                            refine lv_aload hx hb dL_arePoints_419 (lv_at hl 10 rfl) ?_
                            refine cx_ri (va_runS (As := [.ref ((adq ad aq) 39)]) (rest := [.int (flF (diF ((R 1)) (dr ((R 0)) lm)))]) ⟨hx, hb, hml, hown, hts⟩ (c_L_turning l D T (fun _ => (adq ad aq) 39) (fun _ => 0) (fun _ => (fun n => trS (diF (R 22) (dr (R 20) lm)) n 8))) (va_cwS 1 hts gL_arePoints_L_turning rfl rfl rfl (by decide +kernel) ⟨Nat.le_of_ble_eq_true rfl, Nat.le_of_ble_eq_true rfl⟩) ⟨YR.blind, YR.pre (hw_of (I := fun _ => 0) hP qw_39) hK rfl⟩ rfl rfl hl.1 rfl (lv_room (Nat.le_of_ble_eq_true rfl)) dL_arePoints_421 ⟨Nat.le_of_ble_eq_true rfl, Nat.le_of_ble_eq_true rfl⟩) hS hP (fun H locs hP hS => ?_)
                            refine lv_iconst (v := 1) hx hb dL_arePoints_424 (by decide) ?_
                            refine lv_icmp_ne (tgt := 433) hx hb dL_arePoints_425 (by decide) (fun c_425 => ?_) (fun c_425 => ?_)
                            · refine lv_iconst (v := (-1)) hx hb dL_arePoints_433 (by decide) ?_
                              refine lv_icmp_ne (tgt := 441) hx hb dL_arePoints_434 (by decide) (fun c_434 => ?_) (fun c_434 => ?_)
                              · have e_434 : flF (diF (R 1) (dr (R 0) lm)) = -1 := by rw [h0, h1, fl_law (di_bd hbp hda)]; exact if_neg c_425
                                exact absurd e_434 c_434
                              · refine lv_iconst (v := 1) hx hb dL_arePoints_437 (by decide) ?_
                                refine lv_goto (tgt := 442) hx hb dL_arePoints_438 (by decide) ?_
                                exact W.zret (v := 1) hx hb hr (rfl) (fun t ht hW => ⟨⟨1, f, rfl, ⟨rfl, trivial⟩, by show va_P _ _ _ _; rw [ht]; exact (qw_pw hP)⟩, hS.F ht⟩) hS.2.2 dL_arePoints_442
                            · refine lv_iload hx hb dL_arePoints_428 (lv_at hl 11 rfl) ?_
                              refine lv_goto (tgt := 434) hx hb dL_arePoints_430 (by decide) ?_
                              refine lv_icmp_ne (tgt := 441) hx hb dL_arePoints_434 (by decide) (fun c_434 => ?_) (fun c_434 => ?_)
                              · have e_434 : flF (diF (R 1) (dr (R 0) lm)) = fdS (fun n => trS (diF (R 22) (dr (R 20) lm)) n 8) 8 := by rw [h0, h1, fl_law (di_bd hbp hda)]; exact if_pos c_425
                                exact absurd e_434 c_434
                              · refine lv_iconst (v := 1) hx hb dL_arePoints_437 (by decide) ?_
                                refine lv_goto (tgt := 442) hx hb dL_arePoints_438 (by decide) ?_
                                exact W.zret (v := 1) hx hb hr (rfl) (fun t ht hW => ⟨⟨1, f, rfl, ⟨rfl, trivial⟩, by show va_P _ _ _ _; rw [ht]; exact (qw_pw hP)⟩, hS.F ht⟩) hS.2.2 dL_arePoints_442
              · have c_320 : ¬ (8 ≤ k) := fun h => c_320 ((nI_leI (a := 8) (b := k) (by omega) (by omega)).mpr h)
                refine lv_aload hx hb dL_arePoints_323 (lv_at hl 10 rfl) ?_
                refine lv_iload hx hb dL_arePoints_325 (lv_at hl 12 rfl) ?_
                refine cx_iald (k := k) hx hb hK hP 39 1 qw_39 rfl (by omega) (by decide) dL_arePoints_327 ?_
                refine cx_top (y := ((fun n => trS (diF (R 22) (dr (R 20) lm)) n 8) k)) rfl ?_
                refine cx_top (show ((fun n => trS (diF (R 22) (dr (R 20) lm)) n 8) k) = (trS (diF (R 22) (dr (R 20) lm)) k 8) from rfl) ?_
                refine lv_if_eq (tgt := 336) hx hb dL_arePoints_328 (by decide) (fun c_328 => ?_) (fun c_328 => ?_)
                · refine lv_iload hx hb dL_arePoints_336 (lv_at hl 11 rfl) ?_
                  refine cx_top (show (fdS (fun n => trS (diF (R 22) (dr (R 20) lm)) n 8) k) = (fdS (fun n => trS (diF (R 22) (dr (R 20) lm)) n 8) (k + 1)) from fd_t (q := (fun n => trS (diF (R 22) (dr (R 20) lm)) n 8)) c_328) ?_
                  refine lv_istore (lv' := [(11, .int (fdS (fun n => trS (diF (R 22) (dr (R 20) lm)) n 8) (k + 1))), (0, .ref ((adq ad aq) 0)), (1, .ref ((adq ad aq) 34)), (2, .ref ((adq ad aq) 35)), (3, .ref ((adq ad aq) 36)), (4, .ref ((adq ad aq) 37)), (5, .int (mgS (dr (R 20) lm) 8)), (6, .int (mnS (dr (R 20) lm) 8)), (7, .int (gaS (diF (R 22) (dr (R 20) lm)) 8)), (8, .int (gaS (juF (dr (R 20) lm)) 8)), (9, .int (ovL (dr (R 20) lm))), (10, .ref ((adq ad aq) 39)), (12, .int (nI k))]) hx hb dL_arePoints_338 hl (by decide) rfl (fun ls hl => ?_)
                  refine lv_iinc (k := 12) (v := (nI (k + 1))) (lv' := [(12, .int (nI (k + 1))), (11, .int (fdS (fun n => trS (diF (R 22) (dr (R 20) lm)) n 8) (k + 1))), (0, .ref ((adq ad aq) 0)), (1, .ref ((adq ad aq) 34)), (2, .ref ((adq ad aq) 35)), (3, .ref ((adq ad aq) 36)), (4, .ref ((adq ad aq) 37)), (5, .int (mgS (dr (R 20) lm) 8)), (6, .int (mnS (dr (R 20) lm) 8)), (7, .int (gaS (diF (R 22) (dr (R 20) lm)) 8)), (8, .int (gaS (juF (dr (R 20) lm)) 8)), (9, .int (ovL (dr (R 20) lm))), (10, .ref ((adq ad aq) 39))]) hx hb dL_arePoints_340 hl rfl (nI_add k 1) (by decide) rfl (fun ls hl => ?_)
                  refine lv_goto (tgt := 316) hx hb dL_arePoints_343 (by decide) ?_
                  exact ih_316 (k + 1) _ _ _ (by omega) (by omega) hP hS (lv_sub hl [2, 3, 4, 5, 6, 7, 8, 9, 10, 11, 12, 1, 0] rfl)
                · refine lv_iload hx hb dL_arePoints_331 (lv_at hl 12 rfl) ?_
                  refine lv_goto (tgt := 338) hx hb dL_arePoints_333 (by decide) ?_
                  refine cx_top (show (nI k) = (fdS (fun n => trS (diF (R 22) (dr (R 20) lm)) n 8) (k + 1)) from fd_f (q := (fun n => trS (diF (R 22) (dr (R 20) lm)) n 8)) c_328) ?_
                  refine lv_istore (lv' := [(11, .int (fdS (fun n => trS (diF (R 22) (dr (R 20) lm)) n 8) (k + 1))), (0, .ref ((adq ad aq) 0)), (1, .ref ((adq ad aq) 34)), (2, .ref ((adq ad aq) 35)), (3, .ref ((adq ad aq) 36)), (4, .ref ((adq ad aq) 37)), (5, .int (mgS (dr (R 20) lm) 8)), (6, .int (mnS (dr (R 20) lm) 8)), (7, .int (gaS (diF (R 22) (dr (R 20) lm)) 8)), (8, .int (gaS (juF (dr (R 20) lm)) 8)), (9, .int (ovL (dr (R 20) lm))), (10, .ref ((adq ad aq) 39)), (12, .int (nI k))]) hx hb dL_arePoints_338 hl (by decide) rfl (fun ls hl => ?_)
                  refine lv_iinc (k := 12) (v := (nI (k + 1))) (lv' := [(12, .int (nI (k + 1))), (11, .int (fdS (fun n => trS (diF (R 22) (dr (R 20) lm)) n 8) (k + 1))), (0, .ref ((adq ad aq) 0)), (1, .ref ((adq ad aq) 34)), (2, .ref ((adq ad aq) 35)), (3, .ref ((adq ad aq) 36)), (4, .ref ((adq ad aq) 37)), (5, .int (mgS (dr (R 20) lm) 8)), (6, .int (mnS (dr (R 20) lm) 8)), (7, .int (gaS (diF (R 22) (dr (R 20) lm)) 8)), (8, .int (gaS (juF (dr (R 20) lm)) 8)), (9, .int (ovL (dr (R 20) lm))), (10, .ref ((adq ad aq) 39))]) hx hb dL_arePoints_340 hl rfl (nI_add k 1) (by decide) rfl (fun ls hl => ?_)
                  refine lv_goto (tgt := 316) hx hb dL_arePoints_343 (by decide) ?_
                  exact ih_316 (k + 1) _ _ _ (by omega) (by omega) hP hS (lv_sub hl [2, 3, 4, 5, 6, 7, 8, 9, 10, 11, 12, 1, 0] rfl)
          · have c_281 : ¬ (8 ≤ j) := fun h => c_281 ((nI_leI (a := 8) (b := j) (by omega) (by omega)).mpr h)
            refine lv_aload hx hb dL_arePoints_284 (lv_at hl 10 rfl) ?_
            refine lv_iload hx hb dL_arePoints_286 (lv_at hl 11 rfl) ?_
            refine lv_aload_n hx hb dL_arePoints_288 rfl (lv_at hl 3 rfl) ?_
            refine lv_iload hx hb dL_arePoints_289 (lv_at hl 11 rfl) ?_
            refine cx_iald (k := j) hx hb hK hP 36 1 qw_36 rfl (by omega) (by decide) dL_arePoints_291 ?_
            refine cx_top (y := ((R 22) j)) rfl ?_
            refine lv_aload hx hb dL_arePoints_292 (lv_at hl 4 rfl) ?_
            refine lv_iload hx hb dL_arePoints_294 (lv_at hl 11 rfl) ?_
            refine cx_iald (k := j) hx hb hK hP 37 1 qw_37 rfl (by omega) (by decide) dL_arePoints_296 ?_
            refine cx_top (y := ((R 23) j)) rfl ?_
            refine lv_isub hx hb dL_arePoints_297 ?_
            refine cx_iast (k := j) hx hb hK hP (hD _ _) hS 39 1 qw_39 rfl (by omega) (by decide) qw_R25 dL_arePoints_298 (fun H locs hP hS => ?_)
            refine lv_iinc (k := 11) (v := (nI (j + 1))) (lv' := [(11, .int (nI (j + 1))), (0, .ref ((adq ad aq) 0)), (1, .ref ((adq ad aq) 34)), (2, .ref ((adq ad aq) 35)), (3, .ref ((adq ad aq) 36)), (4, .ref ((adq ad aq) 37)), (5, .int (mgS (dr (R 20) lm) 8)), (6, .int (mnS (dr (R 20) lm) 8)), (7, .int (gaS (diF (R 22) (dr (R 20) lm)) 8)), (8, .int (gaS (juF (dr (R 20) lm)) 8)), (9, .int (ovL (dr (R 20) lm))), (10, .ref ((adq ad aq) 39))]) hx hb dL_arePoints_299 hl rfl (nI_add j 1) (by decide) rfl (fun ls hl => ?_)
            refine lv_goto (tgt := 277) hx hb dL_arePoints_302 (by decide) ?_
            exact ih_277 (j + 1) (upd g j (((R 22) j) - ((R 23) j))) _ _ _ (by omega) (by omega) (up_lt hg (by rw [ht]; rfl)) (updQ hP) hS (lv_sub hl [1, 2, 3, 4, 5, 6, 7, 8, 9, 10, 11, 0] rfl)
      · refine lv_iload hx hb dL_arePoints_253 (lv_at hl 5 rfl) ?_
        refine cx_ri (va_runS (As := [.int (mgS (dr (R 20) lm) 8)]) (rest := []) ⟨hx, hb, hml, hown, hts⟩ (c_L_amount l  (mgS (dr (R 20) lm) 8)) (va_cwS 1 hts gL_arePoints_L_amount rfl rfl rfl (by decide +kernel) ⟨Nat.le_of_ble_eq_true rfl, Nat.le_of_ble_eq_true rfl⟩) ⟨pc_blind, (fun U hU hW => ⟨rfl, trivial⟩)⟩ rfl rfl hl.1 rfl (lv_room (Nat.le_of_ble_eq_true rfl)) dL_arePoints_255 ⟨Nat.le_of_ble_eq_true rfl, Nat.le_of_ble_eq_true rfl⟩) hS hP (fun H locs hP hS => ?_)
        refine lv_goto (tgt := 266) hx hb dL_arePoints_258 (by decide) ?_
        refine cx_top (show (abI (mgS (dr (R 20) lm) 8)) = (ovL (dr (R 20) lm)) from ov_f c_250) ?_
        refine lv_istore (lv' := [(9, .int (ovL (dr (R 20) lm))), (0, .ref (ad 0)), (1, .ref (ad 34)), (2, .ref (ad 35)), (3, .ref (ad 36)), (4, .ref (ad 37)), (5, .int (mgS (dr (R 20) lm) 8)), (6, .int (mnS (dr (R 20) lm) 8)), (7, .int (gaS (diF (R 22) (dr (R 20) lm)) 8)), (8, .int (gaS (juF (dr (R 20) lm)) 8))]) hx hb dL_arePoints_266 hl (by decide) rfl (fun ls hl => ?_)
        refine lv_bipush (v := 8) hx hb dL_arePoints_268 (by decide) ?_
        refine cx_newi hx hb (hts (.arrayClass .int) (by decide +kernel)) hK hP (hD _ _) hS (fun q h => cA_new h) 8 (by decide) rfl (by decide) (Nat.le_of_ble_eq_true rfl) (Nat.le_of_ble_eq_true rfl) dL_arePoints_270 (fun aq H hP hD9 hS => ?_)
        have hP := qw_new hP
        have hQ := qw_AD (qw_newD hD9)
        clear hD9 hD
        have hD : ∀ I R, va_D (cA 39 ad s.heap.size) (qw T (adq ad aq) I R) := fun I R => qw_D hQ.1 hQ.2
        have hl : lv_has ls 13 [(9, .int (ovL (dr (R 20) lm))), (0, .ref ((adq ad aq) 0)), (1, .ref ((adq ad aq) 34)), (2, .ref ((adq ad aq) 35)), (3, .ref ((adq ad aq) 36)), (4, .ref ((adq ad aq) 37)), (5, .int (mgS (dr (R 20) lm) 8)), (6, .int (mnS (dr (R 20) lm) 8)), (7, .int (gaS (diF (R 22) (dr (R 20) lm)) 8)), (8, .int (gaS (juF (dr (R 20) lm)) 8))] := hl
        refine W.widen (k := 1) (n := 8) (by decide) (by decide) ?_
        refine lv_astore (lv' := [(10, .ref ((adq ad aq) 39)), (9, .int (ovL (dr (R 20) lm))), (0, .ref ((adq ad aq) 0)), (1, .ref ((adq ad aq) 34)), (2, .ref ((adq ad aq) 35)), (3, .ref ((adq ad aq) 36)), (4, .ref ((adq ad aq) 37)), (5, .int (mgS (dr (R 20) lm) 8)), (6, .int (mnS (dr (R 20) lm) 8)), (7, .int (gaS (diF (R 22) (dr (R 20) lm)) 8)), (8, .int (gaS (juF (dr (R 20) lm)) 8))]) hx hb dL_arePoints_272 hl (by decide) rfl (fun ls hl => ?_)
        refine lv_iconst (v := 0) hx hb dL_arePoints_274 (by decide) ?_
        refine lv_istore (lv' := [(11, .int 0), (10, .ref ((adq ad aq) 39)), (9, .int (ovL (dr (R 20) lm))), (0, .ref ((adq ad aq) 0)), (1, .ref ((adq ad aq) 34)), (2, .ref ((adq ad aq) 35)), (3, .ref ((adq ad aq) 36)), (4, .ref ((adq ad aq) 37)), (5, .int (mgS (dr (R 20) lm) 8)), (6, .int (mnS (dr (R 20) lm) 8)), (7, .int (gaS (diF (R 22) (dr (R 20) lm)) 8)), (8, .int (gaS (juF (dr (R 20) lm)) 8))]) hx hb dL_arePoints_275 hl (by decide) rfl (fun ls hl => ?_)
        suffices ih_277 : ∀ (fu : Nat) (j : Nat) (g : Nat → Int32) (H : Heap) (locs : List Loc) (ls : Array Slot), 8 - j < fu → (j ≤ 8) → (∀ k, k < j → g k = (diF (R 22) (dr (R 20) lm)) k) → va_P D vwCl (qw T (adq ad aq) I (updR (updR R 19 f) 25 g)) H →  va_S (cA 39 ad s.heap.size) s.heap H locs → lv_has ls 13 [(0, .ref ((adq ad aq) 0)), (1, .ref ((adq ad aq) 34)), (2, .ref ((adq ad aq) 35)), (3, .ref ((adq ad aq) 36)), (4, .ref ((adq ad aq) 37)), (5, .int (mgS (dr (R 20) lm) 8)), (6, .int (mnS (dr (R 20) lm) 8)), (7, .int (gaS (diF (R 22) (dr (R 20) lm)) 8)), (8, .int (gaS (juF (dr (R 20) lm)) 8)), (9, .int (ovL (dr (R 20) lm))), (10, .ref ((adq ad aq) 39)), (11, .int (nI j))] → W p l e (headSpec wsL_arePoints ({ frames := 7, cells := 1, slots := 8, locals := 150 })).room s m ([.ref (ad 0), .ref (ad 34), .ref (ad 35), .ref (ad 36), .ref (ad 37)] : List Value).toArray below meth c H locs 1 8 (MQ below (va_Qi (fun r (u : Nat → Int32) => r = 1 ∧ True) (fun (u : Nat → Int32) t => va_P D vwCl (pw T ad I (updR R 19 u)) t.heap) (cA 39 ad s.heap.size)) ([.ref (ad 0), .ref (ad 34), .ref (ad 35), .ref (ad 36), .ref (ad 37)] : List Value).toArray s 1 8 (cA 39 ad s.heap.size)) (F0 m 277 ls []) from
          ih_277 _ 0 (fun _ => 0) _ _ _ (Nat.lt_succ_self _) (by omega) (fun k h => absurd h (Nat.not_lt_zero k)) hP hS (lv_sub hl [3, 4, 5, 6, 7, 8, 9, 10, 11, 2, 1, 0] rfl)
        intro fu
        induction fu with
        | zero => intro j g H locs ls hfu; exact absurd hfu (Nat.not_lt_zero _)
        | succ fu ih_277 =>
          intro j g H locs ls hfu hj9 hg hP hS hl
          refine lv_iload hx hb dL_arePoints_277 (lv_at hl 11 rfl) ?_
          refine lv_bipush (v := 8) hx hb dL_arePoints_279 (by decide) ?_
          refine lv_icmp_ge (tgt := 305) hx hb dL_arePoints_281 (by decide) (fun c_281 => ?_) (fun c_281 => ?_)
          · have c_281 : 8 ≤ j := (nI_leI (a := 8) (b := j) (by omega) (by omega)).mp c_281
            obtain rfl : j = 8 := by omega
            refine lv_aload hx hb dL_arePoints_305 (lv_at hl 10 rfl) ?_
            refine cx_wv (va_runS (As := [.ref ((adq ad aq) 39)]) (rest := []) ⟨hx, hb, hml, hown, hts⟩ (c_L_halves l D T (fun _ => (adq ad aq) 39) (fun _ => 0) (fun _ => g) _ AD_1) (va_cwS 1 hts gL_arePoints_L_halves rfl rfl rfl (by decide +kernel) ⟨Nat.le_of_ble_eq_true rfl, Nat.le_of_ble_eq_true rfl⟩) ⟨YB.blind, YB.pre (hw_of (I := fun _ => 0) hP qw_39) hK rfl⟩ rfl rfl hl.1 rfl (lv_room (Nat.le_of_ble_eq_true rfl)) dL_arePoints_307 ⟨Nat.le_of_ble_eq_true rfl, Nat.le_of_ble_eq_true rfl⟩) hS (cA_sub (fun _ _ => hQ.2 39 (by decide)) (fun q hq => cA_new (Nat.le_trans hS.1 hq))) (cA_sub (fun _ _ => hQ.2 39 (by decide)) (fun q hq => cA_new (Nat.le_trans hS.1 hq))) (fun u_307 H locs hu_307 hP1 hkk hS => ?_)
            have hP := hw_join (g := (fun n => trS (diF (R 22) (dr (R 20) lm)) n 8)) hP (hD _ _) qw_39 hkk hP1 (fun j hj => (hu_307 j hj).trans (trS_congr hg)) qw_R25
            have hP := updQ hP
            refine lv_iconst (v := (-1)) hx hb dL_arePoints_310 (by decide) ?_
            refine lv_istore (lv' := [(11, .int (-1)), (0, .ref ((adq ad aq) 0)), (1, .ref ((adq ad aq) 34)), (2, .ref ((adq ad aq) 35)), (3, .ref ((adq ad aq) 36)), (4, .ref ((adq ad aq) 37)), (5, .int (mgS (dr (R 20) lm) 8)), (6, .int (mnS (dr (R 20) lm) 8)), (7, .int (gaS (diF (R 22) (dr (R 20) lm)) 8)), (8, .int (gaS (juF (dr (R 20) lm)) 8)), (9, .int (ovL (dr (R 20) lm))), (10, .ref ((adq ad aq) 39))]) hx hb dL_arePoints_311 hl (by decide) rfl (fun ls hl => ?_)
            refine lv_iconst (v := 0) hx hb dL_arePoints_313 (by decide) ?_
            refine lv_istore (lv' := [(12, .int 0), (11, .int (-1)), (0, .ref ((adq ad aq) 0)), (1, .ref ((adq ad aq) 34)), (2, .ref ((adq ad aq) 35)), (3, .ref ((adq ad aq) 36)), (4, .ref ((adq ad aq) 37)), (5, .int (mgS (dr (R 20) lm) 8)), (6, .int (mnS (dr (R 20) lm) 8)), (7, .int (gaS (diF (R 22) (dr (R 20) lm)) 8)), (8, .int (gaS (juF (dr (R 20) lm)) 8)), (9, .int (ovL (dr (R 20) lm))), (10, .ref ((adq ad aq) 39))]) hx hb dL_arePoints_314 hl (by decide) rfl (fun ls hl => ?_)
            suffices ih_316 : ∀ (fu : Nat) (k : Nat) (H : Heap) (locs : List Loc) (ls : Array Slot), 8 - k < fu → (k ≤ 8) → va_P D vwCl (qw T (adq ad aq) I (updR (updR R 19 f) 25 (fun n => trS (diF (R 22) (dr (R 20) lm)) n 8))) H →  va_S (cA 39 ad s.heap.size) s.heap H locs → lv_has ls 13 [(0, .ref ((adq ad aq) 0)), (1, .ref ((adq ad aq) 34)), (2, .ref ((adq ad aq) 35)), (3, .ref ((adq ad aq) 36)), (4, .ref ((adq ad aq) 37)), (5, .int (mgS (dr (R 20) lm) 8)), (6, .int (mnS (dr (R 20) lm) 8)), (7, .int (gaS (diF (R 22) (dr (R 20) lm)) 8)), (8, .int (gaS (juF (dr (R 20) lm)) 8)), (9, .int (ovL (dr (R 20) lm))), (10, .ref ((adq ad aq) 39)), (11, .int (fdS (fun n => trS (diF (R 22) (dr (R 20) lm)) n 8) k)), (12, .int (nI k))] → W p l e (headSpec wsL_arePoints ({ frames := 7, cells := 1, slots := 8, locals := 150 })).room s m ([.ref (ad 0), .ref (ad 34), .ref (ad 35), .ref (ad 36), .ref (ad 37)] : List Value).toArray below meth c H locs 1 8 (MQ below (va_Qi (fun r (u : Nat → Int32) => r = 1 ∧ True) (fun (u : Nat → Int32) t => va_P D vwCl (pw T ad I (updR R 19 u)) t.heap) (cA 39 ad s.heap.size)) ([.ref (ad 0), .ref (ad 34), .ref (ad 35), .ref (ad 36), .ref (ad 37)] : List Value).toArray s 1 8 (cA 39 ad s.heap.size)) (F0 m 316 ls []) from
              ih_316 _ 0 _ _ _ (Nat.lt_succ_self _) (by omega) hP hS (lv_sub hl [2, 3, 4, 5, 6, 7, 8, 9, 10, 11, 12, 1, 0] rfl)
            intro fu
            induction fu with
            | zero => intro k H locs ls hfu; exact absurd hfu (Nat.not_lt_zero _)
            | succ fu ih_316 =>
              intro k H locs ls hfu hk9 hP hS hl
              refine lv_iload hx hb dL_arePoints_316 (lv_at hl 12 rfl) ?_
              refine lv_bipush (v := 8) hx hb dL_arePoints_318 (by decide) ?_
              refine lv_icmp_ge (tgt := 346) hx hb dL_arePoints_320 (by decide) (fun c_320 => ?_) (fun c_320 => ?_)
              · have c_320 : 8 ≤ k := (nI_leI (a := 8) (b := k) (by omega) (by omega)).mp c_320
                obtain rfl : k = 8 := by omega
                refine lv_aload_n hx hb dL_arePoints_346 rfl (lv_at hl 0 rfl) ?_
                refine lv_iconst (v := 2) hx hb dL_arePoints_347 (by decide) ?_
                refine cx_ri (va_runV (As := [.int 2]) (rest := []) ⟨hx, hb, hml, hown, hts⟩ (c_X3_count l D T (adq ad aq) I (updR (updR R 19 f) 25 (fun n => trS (diF (R 22) (dr (R 20) lm)) n 8)) lm 2 (hm) (hI) (by decide)) (cwV 1 hts gL_arePoints_X3_count rfl rfl rfl (by decide +kernel) ⟨Nat.le_of_ble_eq_true rfl, Nat.le_of_ble_eq_true rfl⟩) ⟨CR.blind, va_recv hK hP (ci := 3) (q0 := 0) rfl qw_0, CR.pre (qw_c hP) hK hN rfl⟩ rfl rfl hl.1 rfl (lv_room (Nat.le_of_ble_eq_true rfl)) dL_arePoints_348 ⟨Nat.le_of_ble_eq_true rfl, Nat.le_of_ble_eq_true rfl⟩) hS hP (fun H locs hP hS => ?_)
                refine cx_top (y := (cnF ((R 0)) ((R 1)) lm (I 5) (I 2) 2)) rfl ?_
                refine lv_iload hx hb dL_arePoints_351 (lv_at hl 5 rfl) ?_
                refine lv_icmp_ne (tgt := 441) hx hb dL_arePoints_353 (by decide) (fun c_353 => ?_) (fun c_353 => ?_)
                · exact absurd (cn2.trans (by rw [h0]; exact (mg_gt hda 7).symm)) c_353
                · refine lv_aload_n hx hb dL_arePoints_356 rfl (lv_at hl 0 rfl) ?_
                  refine lv_iconst (v := 3) hx hb dL_arePoints_357 (by decide) ?_
                  refine cx_ri (va_runV (As := [.int 3]) (rest := []) ⟨hx, hb, hml, hown, hts⟩ (c_X3_count l D T (adq ad aq) I (updR (updR R 19 f) 25 (fun n => trS (diF (R 22) (dr (R 20) lm)) n 8)) lm 3 (hm) (hI) (by decide)) (cwV 1 hts gL_arePoints_X3_count rfl rfl rfl (by decide +kernel) ⟨Nat.le_of_ble_eq_true rfl, Nat.le_of_ble_eq_true rfl⟩) ⟨CR.blind, va_recv hK hP (ci := 3) (q0 := 0) rfl qw_0, CR.pre (qw_c hP) hK hN rfl⟩ rfl rfl hl.1 rfl (lv_room (Nat.le_of_ble_eq_true rfl)) dL_arePoints_358 ⟨Nat.le_of_ble_eq_true rfl, Nat.le_of_ble_eq_true rfl⟩) hS hP (fun H locs hP hS => ?_)
                  refine cx_top (y := (cnF ((R 0)) ((R 1)) lm (I 5) (I 2) 3)) rfl ?_
                  refine lv_iload hx hb dL_arePoints_361 (lv_at hl 6 rfl) ?_
                  refine lv_icmp_ne (tgt := 441) hx hb dL_arePoints_363 (by decide) (fun c_363 => ?_) (fun c_363 => ?_)
                  · exact absurd (cn3.trans (by rw [h0]; exact (mn_lt hda 7).symm)) c_363
                  · refine lv_aload_n hx hb dL_arePoints_366 rfl (lv_at hl 0 rfl) ?_
                    refine lv_iconst (v := 4) hx hb dL_arePoints_367 (by decide) ?_
                    refine cx_ri (va_runV (As := [.int 4]) (rest := []) ⟨hx, hb, hml, hown, hts⟩ (c_X3_count l D T (adq ad aq) I (updR (updR R 19 f) 25 (fun n => trS (diF (R 22) (dr (R 20) lm)) n 8)) lm 4 (hm) (hI) (by decide)) (cwV 1 hts gL_arePoints_X3_count rfl rfl rfl (by decide +kernel) ⟨Nat.le_of_ble_eq_true rfl, Nat.le_of_ble_eq_true rfl⟩) ⟨CR.blind, va_recv hK hP (ci := 3) (q0 := 0) rfl qw_0, CR.pre (qw_c hP) hK hN rfl⟩ rfl rfl hl.1 rfl (lv_room (Nat.le_of_ble_eq_true rfl)) dL_arePoints_368 ⟨Nat.le_of_ble_eq_true rfl, Nat.le_of_ble_eq_true rfl⟩) hS hP (fun H locs hP hS => ?_)
                    refine cx_top (y := (cnF ((R 0)) ((R 1)) lm (I 5) (I 2) 4)) rfl ?_
                    refine lv_iload hx hb dL_arePoints_371 (lv_at hl 7 rfl) ?_
                    refine lv_icmp_ne (tgt := 441) hx hb dL_arePoints_373 (by decide) (fun c_373 => ?_) (fun c_373 => ?_)
                    · exact absurd (cn4.trans (by rw [h0, h1])) c_373
                    · refine lv_aload_n hx hb dL_arePoints_376 rfl (lv_at hl 0 rfl) ?_
                      refine lv_iconst (v := 5) hx hb dL_arePoints_377 (by decide) ?_
                      refine cx_ri (va_runV (As := [.int 5]) (rest := []) ⟨hx, hb, hml, hown, hts⟩ (c_X3_count l D T (adq ad aq) I (updR (updR R 19 f) 25 (fun n => trS (diF (R 22) (dr (R 20) lm)) n 8)) lm 5 (hm) (hI) (by decide)) (cwV 1 hts gL_arePoints_X3_count rfl rfl rfl (by decide +kernel) ⟨Nat.le_of_ble_eq_true rfl, Nat.le_of_ble_eq_true rfl⟩) ⟨CR.blind, va_recv hK hP (ci := 3) (q0 := 0) rfl qw_0, CR.pre (qw_c hP) hK hN rfl⟩ rfl rfl hl.1 rfl (lv_room (Nat.le_of_ble_eq_true rfl)) dL_arePoints_378 ⟨Nat.le_of_ble_eq_true rfl, Nat.le_of_ble_eq_true rfl⟩) hS hP (fun H locs hP hS => ?_)
                      refine cx_top (y := (cnF ((R 0)) ((R 1)) lm (I 5) (I 2) 5)) rfl ?_
                      refine lv_iload hx hb dL_arePoints_381 (lv_at hl 8 rfl) ?_
                      refine lv_icmp_ne (tgt := 441) hx hb dL_arePoints_383 (by decide) (fun c_383 => ?_) (fun c_383 => ?_)
                      · exact absurd (cn5.trans (by rw [h0])) c_383
                      · refine lv_aload_n hx hb dL_arePoints_386 rfl (lv_at hl 0 rfl) ?_
                        refine lv_bipush (v := 6) hx hb dL_arePoints_387 (by decide) ?_
                        refine cx_ri (va_runV (As := [.int 6]) (rest := []) ⟨hx, hb, hml, hown, hts⟩ (c_X3_count l D T (adq ad aq) I (updR (updR R 19 f) 25 (fun n => trS (diF (R 22) (dr (R 20) lm)) n 8)) lm 6 (hm) (hI) (by decide)) (cwV 1 hts gL_arePoints_X3_count rfl rfl rfl (by decide +kernel) ⟨Nat.le_of_ble_eq_true rfl, Nat.le_of_ble_eq_true rfl⟩) ⟨CR.blind, va_recv hK hP (ci := 3) (q0 := 0) rfl qw_0, CR.pre (qw_c hP) hK hN rfl⟩ rfl rfl hl.1 rfl (lv_room (Nat.le_of_ble_eq_true rfl)) dL_arePoints_389 ⟨Nat.le_of_ble_eq_true rfl, Nat.le_of_ble_eq_true rfl⟩) hS hP (fun H locs hP hS => ?_)
                        refine cx_top (y := (cnF ((R 0)) ((R 1)) lm (I 5) (I 2) 6)) rfl ?_
                        refine lv_iload hx hb dL_arePoints_392 (lv_at hl 9 rfl) ?_
                        refine lv_aload_n hx hb dL_arePoints_394 rfl (lv_at hl 2 rfl) ?_
                        refine lv_iconst (v := 0) hx hb dL_arePoints_395 (by decide) ?_
                        refine cx_iald (k := 0) hx hb hK hP 35 1 qw_35 rfl (by decide) (by decide) dL_arePoints_396 ?_
                        refine cx_top (y := ((R 21) 0)) rfl ?_
                        refine lv_iconst (v := 1) hx hb dL_arePoints_397 (by decide) ?_
                        refine lv_icmp_ne (tgt := 405) hx hb dL_arePoints_398 (by decide) (fun c_398 => ?_) (fun c_398 => ?_)
                        · refine lv_aload_n hx hb dL_arePoints_405 rfl (lv_at hl 1 rfl) ?_
                          refine lv_iconst (v := 0) hx hb dL_arePoints_406 (by decide) ?_
                          refine cx_iald (k := 0) hx hb hK hP 34 1 qw_34 rfl (by decide) (by decide) dL_arePoints_407 ?_
                          refine cx_top (y := ((R 20) 0)) rfl ?_
                          refine cx_ri (va_runS (As := [.int ((R 20) 0)]) (rest := [.int (ovL (dr (R 20) lm)), .int (cnF ((R 0)) ((R 1)) lm (I 5) (I 2) 6)]) ⟨hx, hb, hml, hown, hts⟩ (c_L_amount l  ((R 20) 0)) (va_cwS 1 hts gL_arePoints_L_amount rfl rfl rfl (by decide +kernel) ⟨Nat.le_of_ble_eq_true rfl, Nat.le_of_ble_eq_true rfl⟩) ⟨pc_blind, (fun U hU hW => ⟨rfl, trivial⟩)⟩ rfl rfl hl.1 rfl (lv_room (Nat.le_of_ble_eq_true rfl)) dL_arePoints_408 ⟨Nat.le_of_ble_eq_true rfl, Nat.le_of_ble_eq_true rfl⟩) hS hP (fun H locs hP hS => ?_)
                          refine lv_isub hx hb dL_arePoints_411 ?_
                          refine lv_icmp_ne (tgt := 441) hx hb dL_arePoints_412 (by decide) (fun c_412 => ?_) (fun c_412 => ?_)
                          · have e_412 : ovF (dr (R 0) lm) = ovL (dr (R 20) lm) - abI (R 20 0) := by rw [h0]; exact ov_a hda (dq_t (a := R 20) (i := 0) hb1 c_398)
                            exact absurd (cn6.trans e_412) c_412
                          · refine lv_aload_n hx hb dL_arePoints_415 rfl (lv_at hl 0 rfl) ?_
                            refine cx_ri (va_runV (As := []) (rest := []) ⟨hx, hb, hml, hown, hts⟩ (c_X3_findLost l D T (adq ad aq) I (updR (updR R 19 f) 25 (fun n => trS (diF (R 22) (dr (R 20) lm)) n 8)) lm (hm) (hI)) (cwV 0 hts gL_arePoints_X3_findLost rfl rfl rfl (by decide +kernel) ⟨Nat.le_of_ble_eq_true rfl, Nat.le_of_ble_eq_true rfl⟩) ⟨CR.blind, va_recv hK hP (ci := 3) (q0 := 0) rfl qw_0, CR.pre (qw_c hP) hK hN rfl⟩ rfl rfl hl.1 rfl (lv_room (Nat.le_of_ble_eq_true rfl)) dL_arePoints_416 ⟨Nat.le_of_ble_eq_true rfl, Nat.le_of_ble_eq_true rfl⟩) hS hP (fun H locs hP hS => ?_)
                            refine cx_top (y := (flF (diF ((R 1)) (dr ((R 0)) lm)))) rfl ?_
                            refine lv_aload hx hb dL_arePoints_419 (lv_at hl 10 rfl) ?_
                            refine cx_ri (va_runS (As := [.ref ((adq ad aq) 39)]) (rest := [.int (flF (diF ((R 1)) (dr ((R 0)) lm)))]) ⟨hx, hb, hml, hown, hts⟩ (c_L_turning l D T (fun _ => (adq ad aq) 39) (fun _ => 0) (fun _ => (fun n => trS (diF (R 22) (dr (R 20) lm)) n 8))) (va_cwS 1 hts gL_arePoints_L_turning rfl rfl rfl (by decide +kernel) ⟨Nat.le_of_ble_eq_true rfl, Nat.le_of_ble_eq_true rfl⟩) ⟨YR.blind, YR.pre (hw_of (I := fun _ => 0) hP qw_39) hK rfl⟩ rfl rfl hl.1 rfl (lv_room (Nat.le_of_ble_eq_true rfl)) dL_arePoints_421 ⟨Nat.le_of_ble_eq_true rfl, Nat.le_of_ble_eq_true rfl⟩) hS hP (fun H locs hP hS => ?_)
                            refine lv_iconst (v := 1) hx hb dL_arePoints_424 (by decide) ?_
                            refine lv_icmp_ne (tgt := 433) hx hb dL_arePoints_425 (by decide) (fun c_425 => ?_) (fun c_425 => ?_)
                            · refine lv_iconst (v := (-1)) hx hb dL_arePoints_433 (by decide) ?_
                              refine lv_icmp_ne (tgt := 441) hx hb dL_arePoints_434 (by decide) (fun c_434 => ?_) (fun c_434 => ?_)
                              · have e_434 : flF (diF (R 1) (dr (R 0) lm)) = -1 := by rw [h0, h1, fl_law (di_bd hbp hda)]; exact if_neg c_425
                                exact absurd e_434 c_434
                              · refine lv_iconst (v := 1) hx hb dL_arePoints_437 (by decide) ?_
                                refine lv_goto (tgt := 442) hx hb dL_arePoints_438 (by decide) ?_
                                exact W.zret (v := 1) hx hb hr (rfl) (fun t ht hW => ⟨⟨1, f, rfl, ⟨rfl, trivial⟩, by show va_P _ _ _ _; rw [ht]; exact (qw_pw hP)⟩, hS.F ht⟩) hS.2.2 dL_arePoints_442
                            · refine lv_iload hx hb dL_arePoints_428 (lv_at hl 11 rfl) ?_
                              refine lv_goto (tgt := 434) hx hb dL_arePoints_430 (by decide) ?_
                              refine lv_icmp_ne (tgt := 441) hx hb dL_arePoints_434 (by decide) (fun c_434 => ?_) (fun c_434 => ?_)
                              · have e_434 : flF (diF (R 1) (dr (R 0) lm)) = fdS (fun n => trS (diF (R 22) (dr (R 20) lm)) n 8) 8 := by rw [h0, h1, fl_law (di_bd hbp hda)]; exact if_pos c_425
                                exact absurd e_434 c_434
                              · refine lv_iconst (v := 1) hx hb dL_arePoints_437 (by decide) ?_
                                refine lv_goto (tgt := 442) hx hb dL_arePoints_438 (by decide) ?_
                                exact W.zret (v := 1) hx hb hr (rfl) (fun t ht hW => ⟨⟨1, f, rfl, ⟨rfl, trivial⟩, by show va_P _ _ _ _; rw [ht]; exact (qw_pw hP)⟩, hS.F ht⟩) hS.2.2 dL_arePoints_442
                        · refine lv_iconst (v := 0) hx hb dL_arePoints_401 (by decide) ?_
                          refine lv_goto (tgt := 411) hx hb dL_arePoints_402 (by decide) ?_
                          refine lv_isub hx hb dL_arePoints_411 ?_
                          refine lv_icmp_ne (tgt := 441) hx hb dL_arePoints_412 (by decide) (fun c_412 => ?_) (fun c_412 => ?_)
                          · have e_412 : ovF (dr (R 0) lm) = ovL (dr (R 20) lm) - 0 := by rw [h0]; exact ov_b hda (dq_f (a := R 20) (i := 0) hb1 c_398)
                            exact absurd (cn6.trans e_412) c_412
                          · refine lv_aload_n hx hb dL_arePoints_415 rfl (lv_at hl 0 rfl) ?_
                            refine cx_ri (va_runV (As := []) (rest := []) ⟨hx, hb, hml, hown, hts⟩ (c_X3_findLost l D T (adq ad aq) I (updR (updR R 19 f) 25 (fun n => trS (diF (R 22) (dr (R 20) lm)) n 8)) lm (hm) (hI)) (cwV 0 hts gL_arePoints_X3_findLost rfl rfl rfl (by decide +kernel) ⟨Nat.le_of_ble_eq_true rfl, Nat.le_of_ble_eq_true rfl⟩) ⟨CR.blind, va_recv hK hP (ci := 3) (q0 := 0) rfl qw_0, CR.pre (qw_c hP) hK hN rfl⟩ rfl rfl hl.1 rfl (lv_room (Nat.le_of_ble_eq_true rfl)) dL_arePoints_416 ⟨Nat.le_of_ble_eq_true rfl, Nat.le_of_ble_eq_true rfl⟩) hS hP (fun H locs hP hS => ?_)
                            refine cx_top (y := (flF (diF ((R 1)) (dr ((R 0)) lm)))) rfl ?_
                            refine lv_aload hx hb dL_arePoints_419 (lv_at hl 10 rfl) ?_
                            refine cx_ri (va_runS (As := [.ref ((adq ad aq) 39)]) (rest := [.int (flF (diF ((R 1)) (dr ((R 0)) lm)))]) ⟨hx, hb, hml, hown, hts⟩ (c_L_turning l D T (fun _ => (adq ad aq) 39) (fun _ => 0) (fun _ => (fun n => trS (diF (R 22) (dr (R 20) lm)) n 8))) (va_cwS 1 hts gL_arePoints_L_turning rfl rfl rfl (by decide +kernel) ⟨Nat.le_of_ble_eq_true rfl, Nat.le_of_ble_eq_true rfl⟩) ⟨YR.blind, YR.pre (hw_of (I := fun _ => 0) hP qw_39) hK rfl⟩ rfl rfl hl.1 rfl (lv_room (Nat.le_of_ble_eq_true rfl)) dL_arePoints_421 ⟨Nat.le_of_ble_eq_true rfl, Nat.le_of_ble_eq_true rfl⟩) hS hP (fun H locs hP hS => ?_)
                            refine lv_iconst (v := 1) hx hb dL_arePoints_424 (by decide) ?_
                            refine lv_icmp_ne (tgt := 433) hx hb dL_arePoints_425 (by decide) (fun c_425 => ?_) (fun c_425 => ?_)
                            · refine lv_iconst (v := (-1)) hx hb dL_arePoints_433 (by decide) ?_
                              refine lv_icmp_ne (tgt := 441) hx hb dL_arePoints_434 (by decide) (fun c_434 => ?_) (fun c_434 => ?_)
                              · have e_434 : flF (diF (R 1) (dr (R 0) lm)) = -1 := by rw [h0, h1, fl_law (di_bd hbp hda)]; exact if_neg c_425
                                exact absurd e_434 c_434
                              · refine lv_iconst (v := 1) hx hb dL_arePoints_437 (by decide) ?_
                                refine lv_goto (tgt := 442) hx hb dL_arePoints_438 (by decide) ?_
                                exact W.zret (v := 1) hx hb hr (rfl) (fun t ht hW => ⟨⟨1, f, rfl, ⟨rfl, trivial⟩, by show va_P _ _ _ _; rw [ht]; exact (qw_pw hP)⟩, hS.F ht⟩) hS.2.2 dL_arePoints_442
                            · refine lv_iload hx hb dL_arePoints_428 (lv_at hl 11 rfl) ?_
                              refine lv_goto (tgt := 434) hx hb dL_arePoints_430 (by decide) ?_
                              refine lv_icmp_ne (tgt := 441) hx hb dL_arePoints_434 (by decide) (fun c_434 => ?_) (fun c_434 => ?_)
                              · have e_434 : flF (diF (R 1) (dr (R 0) lm)) = fdS (fun n => trS (diF (R 22) (dr (R 20) lm)) n 8) 8 := by rw [h0, h1, fl_law (di_bd hbp hda)]; exact if_pos c_425
                                exact absurd e_434 c_434
                              · refine lv_iconst (v := 1) hx hb dL_arePoints_437 (by decide) ?_
                                refine lv_goto (tgt := 442) hx hb dL_arePoints_438 (by decide) ?_
                                exact W.zret (v := 1) hx hb hr (rfl) (fun t ht hW => ⟨⟨1, f, rfl, ⟨rfl, trivial⟩, by show va_P _ _ _ _; rw [ht]; exact (qw_pw hP)⟩, hS.F ht⟩) hS.2.2 dL_arePoints_442
              · have c_320 : ¬ (8 ≤ k) := fun h => c_320 ((nI_leI (a := 8) (b := k) (by omega) (by omega)).mpr h)
                refine lv_aload hx hb dL_arePoints_323 (lv_at hl 10 rfl) ?_
                refine lv_iload hx hb dL_arePoints_325 (lv_at hl 12 rfl) ?_
                refine cx_iald (k := k) hx hb hK hP 39 1 qw_39 rfl (by omega) (by decide) dL_arePoints_327 ?_
                refine cx_top (y := ((fun n => trS (diF (R 22) (dr (R 20) lm)) n 8) k)) rfl ?_
                refine cx_top (show ((fun n => trS (diF (R 22) (dr (R 20) lm)) n 8) k) = (trS (diF (R 22) (dr (R 20) lm)) k 8) from rfl) ?_
                refine lv_if_eq (tgt := 336) hx hb dL_arePoints_328 (by decide) (fun c_328 => ?_) (fun c_328 => ?_)
                · refine lv_iload hx hb dL_arePoints_336 (lv_at hl 11 rfl) ?_
                  refine cx_top (show (fdS (fun n => trS (diF (R 22) (dr (R 20) lm)) n 8) k) = (fdS (fun n => trS (diF (R 22) (dr (R 20) lm)) n 8) (k + 1)) from fd_t (q := (fun n => trS (diF (R 22) (dr (R 20) lm)) n 8)) c_328) ?_
                  refine lv_istore (lv' := [(11, .int (fdS (fun n => trS (diF (R 22) (dr (R 20) lm)) n 8) (k + 1))), (0, .ref ((adq ad aq) 0)), (1, .ref ((adq ad aq) 34)), (2, .ref ((adq ad aq) 35)), (3, .ref ((adq ad aq) 36)), (4, .ref ((adq ad aq) 37)), (5, .int (mgS (dr (R 20) lm) 8)), (6, .int (mnS (dr (R 20) lm) 8)), (7, .int (gaS (diF (R 22) (dr (R 20) lm)) 8)), (8, .int (gaS (juF (dr (R 20) lm)) 8)), (9, .int (ovL (dr (R 20) lm))), (10, .ref ((adq ad aq) 39)), (12, .int (nI k))]) hx hb dL_arePoints_338 hl (by decide) rfl (fun ls hl => ?_)
                  refine lv_iinc (k := 12) (v := (nI (k + 1))) (lv' := [(12, .int (nI (k + 1))), (11, .int (fdS (fun n => trS (diF (R 22) (dr (R 20) lm)) n 8) (k + 1))), (0, .ref ((adq ad aq) 0)), (1, .ref ((adq ad aq) 34)), (2, .ref ((adq ad aq) 35)), (3, .ref ((adq ad aq) 36)), (4, .ref ((adq ad aq) 37)), (5, .int (mgS (dr (R 20) lm) 8)), (6, .int (mnS (dr (R 20) lm) 8)), (7, .int (gaS (diF (R 22) (dr (R 20) lm)) 8)), (8, .int (gaS (juF (dr (R 20) lm)) 8)), (9, .int (ovL (dr (R 20) lm))), (10, .ref ((adq ad aq) 39))]) hx hb dL_arePoints_340 hl rfl (nI_add k 1) (by decide) rfl (fun ls hl => ?_)
                  refine lv_goto (tgt := 316) hx hb dL_arePoints_343 (by decide) ?_
                  exact ih_316 (k + 1) _ _ _ (by omega) (by omega) hP hS (lv_sub hl [2, 3, 4, 5, 6, 7, 8, 9, 10, 11, 12, 1, 0] rfl)
                · refine lv_iload hx hb dL_arePoints_331 (lv_at hl 12 rfl) ?_
                  refine lv_goto (tgt := 338) hx hb dL_arePoints_333 (by decide) ?_
                  refine cx_top (show (nI k) = (fdS (fun n => trS (diF (R 22) (dr (R 20) lm)) n 8) (k + 1)) from fd_f (q := (fun n => trS (diF (R 22) (dr (R 20) lm)) n 8)) c_328) ?_
                  refine lv_istore (lv' := [(11, .int (fdS (fun n => trS (diF (R 22) (dr (R 20) lm)) n 8) (k + 1))), (0, .ref ((adq ad aq) 0)), (1, .ref ((adq ad aq) 34)), (2, .ref ((adq ad aq) 35)), (3, .ref ((adq ad aq) 36)), (4, .ref ((adq ad aq) 37)), (5, .int (mgS (dr (R 20) lm) 8)), (6, .int (mnS (dr (R 20) lm) 8)), (7, .int (gaS (diF (R 22) (dr (R 20) lm)) 8)), (8, .int (gaS (juF (dr (R 20) lm)) 8)), (9, .int (ovL (dr (R 20) lm))), (10, .ref ((adq ad aq) 39)), (12, .int (nI k))]) hx hb dL_arePoints_338 hl (by decide) rfl (fun ls hl => ?_)
                  refine lv_iinc (k := 12) (v := (nI (k + 1))) (lv' := [(12, .int (nI (k + 1))), (11, .int (fdS (fun n => trS (diF (R 22) (dr (R 20) lm)) n 8) (k + 1))), (0, .ref ((adq ad aq) 0)), (1, .ref ((adq ad aq) 34)), (2, .ref ((adq ad aq) 35)), (3, .ref ((adq ad aq) 36)), (4, .ref ((adq ad aq) 37)), (5, .int (mgS (dr (R 20) lm) 8)), (6, .int (mnS (dr (R 20) lm) 8)), (7, .int (gaS (diF (R 22) (dr (R 20) lm)) 8)), (8, .int (gaS (juF (dr (R 20) lm)) 8)), (9, .int (ovL (dr (R 20) lm))), (10, .ref ((adq ad aq) 39))]) hx hb dL_arePoints_340 hl rfl (nI_add k 1) (by decide) rfl (fun ls hl => ?_)
                  refine lv_goto (tgt := 316) hx hb dL_arePoints_343 (by decide) ?_
                  exact ih_316 (k + 1) _ _ _ (by omega) (by omega) hP hS (lv_sub hl [2, 3, 4, 5, 6, 7, 8, 9, 10, 11, 12, 1, 0] rfl)
          · have c_281 : ¬ (8 ≤ j) := fun h => c_281 ((nI_leI (a := 8) (b := j) (by omega) (by omega)).mpr h)
            refine lv_aload hx hb dL_arePoints_284 (lv_at hl 10 rfl) ?_
            refine lv_iload hx hb dL_arePoints_286 (lv_at hl 11 rfl) ?_
            refine lv_aload_n hx hb dL_arePoints_288 rfl (lv_at hl 3 rfl) ?_
            refine lv_iload hx hb dL_arePoints_289 (lv_at hl 11 rfl) ?_
            refine cx_iald (k := j) hx hb hK hP 36 1 qw_36 rfl (by omega) (by decide) dL_arePoints_291 ?_
            refine cx_top (y := ((R 22) j)) rfl ?_
            refine lv_aload hx hb dL_arePoints_292 (lv_at hl 4 rfl) ?_
            refine lv_iload hx hb dL_arePoints_294 (lv_at hl 11 rfl) ?_
            refine cx_iald (k := j) hx hb hK hP 37 1 qw_37 rfl (by omega) (by decide) dL_arePoints_296 ?_
            refine cx_top (y := ((R 23) j)) rfl ?_
            refine lv_isub hx hb dL_arePoints_297 ?_
            refine cx_iast (k := j) hx hb hK hP (hD _ _) hS 39 1 qw_39 rfl (by omega) (by decide) qw_R25 dL_arePoints_298 (fun H locs hP hS => ?_)
            refine lv_iinc (k := 11) (v := (nI (j + 1))) (lv' := [(11, .int (nI (j + 1))), (0, .ref ((adq ad aq) 0)), (1, .ref ((adq ad aq) 34)), (2, .ref ((adq ad aq) 35)), (3, .ref ((adq ad aq) 36)), (4, .ref ((adq ad aq) 37)), (5, .int (mgS (dr (R 20) lm) 8)), (6, .int (mnS (dr (R 20) lm) 8)), (7, .int (gaS (diF (R 22) (dr (R 20) lm)) 8)), (8, .int (gaS (juF (dr (R 20) lm)) 8)), (9, .int (ovL (dr (R 20) lm))), (10, .ref ((adq ad aq) 39))]) hx hb dL_arePoints_299 hl rfl (nI_add j 1) (by decide) rfl (fun ls hl => ?_)
            refine lv_goto (tgt := 277) hx hb dL_arePoints_302 (by decide) ?_
            exact ih_277 (j + 1) (upd g j (((R 22) j) - ((R 23) j))) _ _ _ (by omega) (by omega) (up_lt hg (by rw [ht]; rfl)) (updQ hP) hS (lv_sub hl [1, 2, 3, 4, 5, 6, 7, 8, 9, 10, 11, 0] rfl)
    · have c_23 : ¬ (8 ≤ i) := fun h => c_23 ((nI_leI (a := 8) (b := i) (by omega) (by omega)).mpr h)
      refine lv_aload hx hb dL_arePoints_26 (lv_at hl 4 rfl) ?_
      refine lv_iload hx hb dL_arePoints_28 (lv_at hl 9 rfl) ?_
      refine lv_bipush (v := 7) hx hb dL_arePoints_30 (by decide) ?_
      refine lv_icmp_ne (tgt := 39) hx hb dL_arePoints_32 (by decide) (fun c_32 => ?_) (fun c_32 => ?_)
      · have c_32 : ¬ (i = 7) := fun h => c_32 ((nI_eq (a := i) (b := 7) (by omega) (by omega)).mpr h)
        refine lv_iload hx hb dL_arePoints_39 (lv_at hl 9 rfl) ?_
        refine lv_iconst (v := 1) hx hb dL_arePoints_41 (by decide) ?_
        refine lv_iadd hx hb dL_arePoints_42 ?_
        refine cx_top (nI_add i 1) ?_
        refine cx_iald (k := (i + 1)) hx hb hK hP 37 1 pw_37 rfl (by omega) (by decide) dL_arePoints_43 ?_
        refine cx_top (y := ((R 23) (i + 1))) rfl ?_
        refine lv_aload hx hb dL_arePoints_44 (lv_at hl 4 rfl) ?_
        refine lv_iload hx hb dL_arePoints_46 (lv_at hl 9 rfl) ?_
        refine cx_iald (k := i) hx hb hK hP 37 1 pw_37 rfl (by omega) (by decide) dL_arePoints_48 ?_
        refine cx_top (y := ((R 23) i)) rfl ?_
        refine lv_isub hx hb dL_arePoints_49 ?_
        refine cx_top (show (((R 23) (i + 1)) - ((R 23) i)) = (juF (dr (R 20) lm) i) from ju_t ht (by omega) c_32) ?_
        refine lv_istore (lv' := [(10, .int (juF (dr (R 20) lm) i)), (0, .ref (ad 0)), (1, .ref (ad 34)), (2, .ref (ad 35)), (3, .ref (ad 36)), (4, .ref (ad 37)), (5, .int (mgS (dr (R 20) lm) i)), (6, .int (mnS (dr (R 20) lm) i)), (7, .int (gaS (diF (R 22) (dr (R 20) lm)) i)), (8, .int (gaS (juF (dr (R 20) lm)) i)), (9, .int (nI i))]) hx hb dL_arePoints_50 hl (by decide) rfl (fun ls hl => ?_)
        refine lv_aload_n hx hb dL_arePoints_52 rfl (lv_at hl 1 rfl) ?_
        refine lv_iload hx hb dL_arePoints_53 (lv_at hl 10 rfl) ?_
        refine lv_iconst (v := 0) hx hb dL_arePoints_55 (by decide) ?_
        refine cx_ri (va_runV (As := [.int (nI i), .int 0]) (rest := []) ⟨hx, hb, hml, hown, hts⟩ (c_X3_trace0 l D T ad I (updR R 19 f) lm i (hm) (hI) (by omega)) (cwV 2 hts gL_arePoints_X3_trace rfl rfl rfl (by decide +kernel) ⟨Nat.le_of_ble_eq_true rfl, Nat.le_of_ble_eq_true rfl⟩) ⟨CR.blind, va_recv hK hP (ci := 3) (q0 := 0) rfl pw_0, CR.pre (pw_c hP) hK hN rfl⟩ rfl rfl hl.1 rfl (lv_room (Nat.le_of_ble_eq_true rfl)) dL_arePoints_56 ⟨Nat.le_of_ble_eq_true rfl, Nat.le_of_ble_eq_true rfl⟩) hS hP (fun H locs hP hS => ?_)
        refine cx_top (y := (trS (dr ((R 0)) lm) i 8)) rfl ?_
        refine lv_aload hx hb dL_arePoints_59 (lv_at hl 5 rfl) ?_
        refine lv_iload hx hb dL_arePoints_61 (lv_at hl 10 rfl) ?_
        refine cx_iald (k := i) hx hb hK hP 37 1 pw_37 rfl (by omega) (by decide) dL_arePoints_63 ?_
        refine cx_top (y := ((R 23) i)) rfl ?_
        refine lv_icmp_ne (tgt := 128) hx hb dL_arePoints_64 (by decide) (fun c_64 => ?_) (fun c_64 => ?_)
        · exact absurd (show trS (dr (R 0) lm) i 8 = R 23 i from by rw [h0, ht]) c_64
        · refine lv_aload_n hx hb dL_arePoints_67 rfl (lv_at hl 1 rfl) ?_
          refine lv_iload hx hb dL_arePoints_68 (lv_at hl 10 rfl) ?_
          refine lv_iconst (v := 1) hx hb dL_arePoints_70 (by decide) ?_
          refine cx_wi (va_runV (As := [.int (nI i), .int 1]) (rest := []) ⟨hx, hb, hml, hown, hts⟩ (c_X3_trace1 l D T ad I (updR R 19 f) _ lm i (AD_le hAD (by decide)) (hm) (hI) (by omega)) (cwV 2 hts gL_arePoints_X3_trace rfl rfl rfl (by decide +kernel) ⟨Nat.le_of_ble_eq_true rfl, Nat.le_of_ble_eq_true rfl⟩) ⟨CB.blind, va_recv hK hP (ci := 3) (q0 := 0) rfl pw_0, CB.pre (pw_c hP) hK hN rfl⟩ rfl rfl hl.1 rfl (lv_room (Nat.le_of_ble_eq_true rfl)) dL_arePoints_71 ⟨Nat.le_of_ble_eq_true rfl, Nat.le_of_ble_eq_true rfl⟩) hS (cA_sub (fun j hj => cA_in (by omega)) (fun q hq => cA_new (Nat.le_trans hS.1 hq))) (cA_sub (fun j hj => cA_in (by omega)) (fun q hq => cA_new (Nat.le_trans hS.1 hq))) (fun u_71 H locs hu_71 hP1 hkk hS => ?_)
          refine cx_top (y := (trS (dr ((R 0)) lm) i 8)) rfl ?_
          have hP := pw_join19 hAD hP hkk hP1
          have hP := updP hP
          refine lv_aload hx hb dL_arePoints_74 (lv_at hl 5 rfl) ?_
          refine lv_iload hx hb dL_arePoints_76 (lv_at hl 10 rfl) ?_
          refine cx_iald (k := i) hx hb hK hP 37 1 pw_37 rfl (by omega) (by decide) dL_arePoints_78 ?_
          refine cx_top (y := ((R 23) i)) rfl ?_
          refine lv_icmp_ne (tgt := 128) hx hb dL_arePoints_79 (by decide) (fun c_79 => ?_) (fun c_79 => ?_)
          · exact absurd (show trS (dr (R 0) lm) i 8 = R 23 i from by rw [h0, ht]) c_79
          · refine lv_aload_n hx hb dL_arePoints_82 rfl (lv_at hl 1 rfl) ?_
            refine lv_iload hx hb dL_arePoints_83 (lv_at hl 10 rfl) ?_
            refine lv_iconst (v := 0) hx hb dL_arePoints_85 (by decide) ?_
            refine cx_ri (va_runV (As := [.int (nI i), .int 0]) (rest := []) ⟨hx, hb, hml, hown, hts⟩ (c_X3_pointOf l D T ad I (updR R 19 u_71) lm i 0 (hm) (hI) (by omega) (by decide)) (cwV 2 hts gL_arePoints_X3_pointOf rfl rfl rfl (by decide +kernel) ⟨Nat.le_of_ble_eq_true rfl, Nat.le_of_ble_eq_true rfl⟩) ⟨CR.blind, va_recv hK hP (ci := 3) (q0 := 0) rfl pw_0, CR.pre (pw_c hP) hK hN rfl⟩ rfl rfl hl.1 rfl (lv_room (Nat.le_of_ble_eq_true rfl)) dL_arePoints_86 ⟨Nat.le_of_ble_eq_true rfl, Nat.le_of_ble_eq_true rfl⟩) hS hP (fun H locs hP hS => ?_)
            refine cx_top (y := (pnF ((R 1)) (dr ((R 0)) lm) i 0)) rfl ?_
            refine lv_aload_n hx hb dL_arePoints_89 rfl (lv_at hl 4 rfl) ?_
            refine lv_iload hx hb dL_arePoints_90 (lv_at hl 10 rfl) ?_
            refine cx_iald (k := i) hx hb hK hP 36 1 pw_36 rfl (by omega) (by decide) dL_arePoints_92 ?_
            refine cx_top (y := ((R 22) i)) rfl ?_
            refine lv_icmp_ne (tgt := 128) hx hb dL_arePoints_93 (by decide) (fun c_93 => ?_) (fun c_93 => ?_)
            · exact absurd (pq0.trans (congrFun h1 i)) c_93
            · refine lv_aload_n hx hb dL_arePoints_96 rfl (lv_at hl 1 rfl) ?_
              refine lv_iload hx hb dL_arePoints_97 (lv_at hl 10 rfl) ?_
              refine lv_iconst (v := 1) hx hb dL_arePoints_99 (by decide) ?_
              refine cx_ri (va_runV (As := [.int (nI i), .int 1]) (rest := []) ⟨hx, hb, hml, hown, hts⟩ (c_X3_pointOf l D T ad I (updR R 19 u_71) lm i 1 (hm) (hI) (by omega) (by decide)) (cwV 2 hts gL_arePoints_X3_pointOf rfl rfl rfl (by decide +kernel) ⟨Nat.le_of_ble_eq_true rfl, Nat.le_of_ble_eq_true rfl⟩) ⟨CR.blind, va_recv hK hP (ci := 3) (q0 := 0) rfl pw_0, CR.pre (pw_c hP) hK hN rfl⟩ rfl rfl hl.1 rfl (lv_room (Nat.le_of_ble_eq_true rfl)) dL_arePoints_100 ⟨Nat.le_of_ble_eq_true rfl, Nat.le_of_ble_eq_true rfl⟩) hS hP (fun H locs hP hS => ?_)
              refine cx_top (y := (pnF ((R 1)) (dr ((R 0)) lm) i 1)) rfl ?_
              refine lv_aload_n hx hb dL_arePoints_103 rfl (lv_at hl 4 rfl) ?_
              refine lv_iload hx hb dL_arePoints_104 (lv_at hl 10 rfl) ?_
              refine cx_iald (k := i) hx hb hK hP 36 1 pw_36 rfl (by omega) (by decide) dL_arePoints_106 ?_
              refine cx_top (y := ((R 22) i)) rfl ?_
              refine lv_aload hx hb dL_arePoints_107 (lv_at hl 5 rfl) ?_
              refine lv_iload hx hb dL_arePoints_109 (lv_at hl 10 rfl) ?_
              refine cx_iald (k := i) hx hb hK hP 37 1 pw_37 rfl (by omega) (by decide) dL_arePoints_111 ?_
              refine cx_top (y := ((R 23) i)) rfl ?_
              refine lv_isub hx hb dL_arePoints_112 ?_
              refine lv_icmp_ne (tgt := 128) hx hb dL_arePoints_113 (by decide) (fun c_113 => ?_) (fun c_113 => ?_)
              · exact absurd (pq1.trans (show diF (R 1) (dr (R 0) lm) i = R 22 i - R 23 i from by rw [h1, h0, ht]; rfl)) c_113
              · refine lv_aload_n hx hb dL_arePoints_116 rfl (lv_at hl 1 rfl) ?_
                refine lv_iload hx hb dL_arePoints_117 (lv_at hl 10 rfl) ?_
                refine lv_iconst (v := 2) hx hb dL_arePoints_119 (by decide) ?_
                refine cx_ri (va_runV (As := [.int (nI i), .int 2]) (rest := []) ⟨hx, hb, hml, hown, hts⟩ (c_X3_pointOf l D T ad I (updR R 19 u_71) lm i 2 (hm) (hI) (by omega) (by decide)) (cwV 2 hts gL_arePoints_X3_pointOf rfl rfl rfl (by decide +kernel) ⟨Nat.le_of_ble_eq_true rfl, Nat.le_of_ble_eq_true rfl⟩) ⟨CR.blind, va_recv hK hP (ci := 3) (q0 := 0) rfl pw_0, CR.pre (pw_c hP) hK hN rfl⟩ rfl rfl hl.1 rfl (lv_room (Nat.le_of_ble_eq_true rfl)) dL_arePoints_120 ⟨Nat.le_of_ble_eq_true rfl, Nat.le_of_ble_eq_true rfl⟩) hS hP (fun H locs hP hS => ?_)
                refine cx_top (y := (pnF ((R 1)) (dr ((R 0)) lm) i 2)) rfl ?_
                refine lv_iload hx hb dL_arePoints_123 (lv_at hl 0 rfl) ?_
                refine lv_icmp_eq (tgt := 130) hx hb dL_arePoints_125 (by decide) (fun c_125 => ?_) (fun c_125 => ?_)
                · refine lv_aload hx hb dL_arePoints_130 (lv_at hl 5 rfl) ?_
                  refine lv_iload hx hb dL_arePoints_132 (lv_at hl 10 rfl) ?_
                  refine cx_iald (k := i) hx hb hK hP 37 1 pw_37 rfl (by omega) (by decide) dL_arePoints_134 ?_
                  refine cx_top (y := ((R 23) i)) rfl ?_
                  refine lv_iload hx hb dL_arePoints_135 (lv_at hl 6 rfl) ?_
                  refine lv_icmp_le (tgt := 148) hx hb dL_arePoints_137 (by decide) (fun c_137 => ?_) (fun c_137 => ?_)
                  · refine lv_iload hx hb dL_arePoints_148 (lv_at hl 6 rfl) ?_
                    refine cx_top (show (mgS (dr (R 20) lm) i) = (mgS (dr (R 20) lm) (i + 1)) from mg_t ht c_137) ?_
                    refine lv_istore (lv' := [(5, .int (mgS (dr (R 20) lm) (i + 1))), (10, .int (juF (dr (R 20) lm) i)), (0, .ref (ad 0)), (1, .ref (ad 34)), (2, .ref (ad 35)), (3, .ref (ad 36)), (4, .ref (ad 37)), (6, .int (mnS (dr (R 20) lm) i)), (7, .int (gaS (diF (R 22) (dr (R 20) lm)) i)), (8, .int (gaS (juF (dr (R 20) lm)) i)), (9, .int (nI i))]) hx hb dL_arePoints_150 hl (by decide) rfl (fun ls hl => ?_)
                    refine lv_aload hx hb dL_arePoints_152 (lv_at hl 6 rfl) ?_
                    refine lv_iload hx hb dL_arePoints_154 (lv_at hl 10 rfl) ?_
                    refine cx_iald (k := i) hx hb hK hP 37 1 pw_37 rfl (by omega) (by decide) dL_arePoints_156 ?_
                    refine cx_top (y := ((R 23) i)) rfl ?_
                    refine lv_iload hx hb dL_arePoints_157 (lv_at hl 7 rfl) ?_
                    refine lv_icmp_ge (tgt := 170) hx hb dL_arePoints_159 (by decide) (fun c_159 => ?_) (fun c_159 => ?_)
                    · refine lv_iload hx hb dL_arePoints_170 (lv_at hl 7 rfl) ?_
                      refine cx_top (show (mnS (dr (R 20) lm) i) = (mnS (dr (R 20) lm) (i + 1)) from mn_t ht c_159) ?_
                      refine lv_istore (lv' := [(6, .int (mnS (dr (R 20) lm) (i + 1))), (5, .int (mgS (dr (R 20) lm) (i + 1))), (10, .int (juF (dr (R 20) lm) i)), (0, .ref (ad 0)), (1, .ref (ad 34)), (2, .ref (ad 35)), (3, .ref (ad 36)), (4, .ref (ad 37)), (7, .int (gaS (diF (R 22) (dr (R 20) lm)) i)), (8, .int (gaS (juF (dr (R 20) lm)) i)), (9, .int (nI i))]) hx hb dL_arePoints_172 hl (by decide) rfl (fun ls hl => ?_)
                      refine lv_aload_n hx hb dL_arePoints_174 rfl (lv_at hl 6 rfl) ?_
                      refine lv_iload hx hb dL_arePoints_175 (lv_at hl 10 rfl) ?_
                      refine cx_iald (k := i) hx hb hK hP 36 1 pw_36 rfl (by omega) (by decide) dL_arePoints_177 ?_
                      refine cx_top (y := ((R 22) i)) rfl ?_
                      refine lv_aload hx hb dL_arePoints_178 (lv_at hl 7 rfl) ?_
                      refine lv_iload hx hb dL_arePoints_180 (lv_at hl 10 rfl) ?_
                      refine cx_iald (k := i) hx hb hK hP 37 1 pw_37 rfl (by omega) (by decide) dL_arePoints_182 ?_
                      refine cx_top (y := ((R 23) i)) rfl ?_
                      refine lv_isub hx hb dL_arePoints_183 ?_
                      refine cx_top (show (((R 22) i) - ((R 23) i)) = (diF (R 22) (dr (R 20) lm) i) from by rw [ht]; rfl) ?_
                      refine cx_ri (va_runS (As := [.int (diF (R 22) (dr (R 20) lm) i)]) (rest := []) ⟨hx, hb, hml, hown, hts⟩ (c_L_amount l  (diF (R 22) (dr (R 20) lm) i)) (va_cwS 1 hts gL_arePoints_L_amount rfl rfl rfl (by decide +kernel) ⟨Nat.le_of_ble_eq_true rfl, Nat.le_of_ble_eq_true rfl⟩) ⟨pc_blind, (fun U hU hW => ⟨rfl, trivial⟩)⟩ rfl rfl hl.1 rfl (lv_room (Nat.le_of_ble_eq_true rfl)) dL_arePoints_184 ⟨Nat.le_of_ble_eq_true rfl, Nat.le_of_ble_eq_true rfl⟩) hS hP (fun H locs hP hS => ?_)
                      refine lv_iload hx hb dL_arePoints_187 (lv_at hl 8 rfl) ?_
                      refine lv_icmp_le (tgt := 208) hx hb dL_arePoints_189 (by decide) (fun c_189 => ?_) (fun c_189 => ?_)
                      · refine lv_iload hx hb dL_arePoints_208 (lv_at hl 8 rfl) ?_
                        refine cx_top (show (gaS (diF (R 22) (dr (R 20) lm)) i) = (gaS (diF (R 22) (dr (R 20) lm)) (i + 1)) from ga_t (f := (diF (R 22) (dr (R 20) lm))) c_189) ?_
                        refine lv_istore (lv' := [(7, .int (gaS (diF (R 22) (dr (R 20) lm)) (i + 1))), (6, .int (mnS (dr (R 20) lm) (i + 1))), (5, .int (mgS (dr (R 20) lm) (i + 1))), (10, .int (juF (dr (R 20) lm) i)), (0, .ref (ad 0)), (1, .ref (ad 34)), (2, .ref (ad 35)), (3, .ref (ad 36)), (4, .ref (ad 37)), (8, .int (gaS (juF (dr (R 20) lm)) i)), (9, .int (nI i))]) hx hb dL_arePoints_210 hl (by decide) rfl (fun ls hl => ?_)
                        refine lv_iload hx hb dL_arePoints_212 (lv_at hl 3 rfl) ?_
                        refine cx_ri (va_runS (As := [.int (juF (dr (R 20) lm) i)]) (rest := []) ⟨hx, hb, hml, hown, hts⟩ (c_L_amount l  (juF (dr (R 20) lm) i)) (va_cwS 1 hts gL_arePoints_L_amount rfl rfl rfl (by decide +kernel) ⟨Nat.le_of_ble_eq_true rfl, Nat.le_of_ble_eq_true rfl⟩) ⟨pc_blind, (fun U hU hW => ⟨rfl, trivial⟩)⟩ rfl rfl hl.1 rfl (lv_room (Nat.le_of_ble_eq_true rfl)) dL_arePoints_214 ⟨Nat.le_of_ble_eq_true rfl, Nat.le_of_ble_eq_true rfl⟩) hS hP (fun H locs hP hS => ?_)
                        refine lv_iload hx hb dL_arePoints_217 (lv_at hl 9 rfl) ?_
                        refine lv_icmp_le (tgt := 230) hx hb dL_arePoints_219 (by decide) (fun c_219 => ?_) (fun c_219 => ?_)
                        · refine lv_iload hx hb dL_arePoints_230 (lv_at hl 9 rfl) ?_
                          refine cx_top (show (gaS (juF (dr (R 20) lm)) i) = (gaS (juF (dr (R 20) lm)) (i + 1)) from ga_t (f := (juF (dr (R 20) lm))) c_219) ?_
                          refine lv_istore (lv' := [(8, .int (gaS (juF (dr (R 20) lm)) (i + 1))), (7, .int (gaS (diF (R 22) (dr (R 20) lm)) (i + 1))), (6, .int (mnS (dr (R 20) lm) (i + 1))), (5, .int (mgS (dr (R 20) lm) (i + 1))), (10, .int (juF (dr (R 20) lm) i)), (0, .ref (ad 0)), (1, .ref (ad 34)), (2, .ref (ad 35)), (3, .ref (ad 36)), (4, .ref (ad 37)), (9, .int (nI i))]) hx hb dL_arePoints_232 hl (by decide) rfl (fun ls hl => ?_)
                          refine lv_iinc (k := 10) (v := (nI (i + 1))) (lv' := [(9, .int (nI (i + 1))), (8, .int (gaS (juF (dr (R 20) lm)) (i + 1))), (7, .int (gaS (diF (R 22) (dr (R 20) lm)) (i + 1))), (6, .int (mnS (dr (R 20) lm) (i + 1))), (5, .int (mgS (dr (R 20) lm) (i + 1))), (10, .int (juF (dr (R 20) lm) i)), (0, .ref (ad 0)), (1, .ref (ad 34)), (2, .ref (ad 35)), (3, .ref (ad 36)), (4, .ref (ad 37))]) hx hb dL_arePoints_234 hl rfl (nI_add i 1) (by decide) rfl (fun ls hl => ?_)
                          refine lv_goto (tgt := 19) hx hb dL_arePoints_237 (by decide) ?_
                          exact ih_19 (i + 1) u_71 _ _ _ (by omega) (by omega) hP hS (lv_sub hl [6, 7, 8, 9, 10, 4, 3, 2, 1, 0] rfl)
                        · refine lv_iload hx hb dL_arePoints_222 (lv_at hl 3 rfl) ?_
                          refine cx_ri (va_runS (As := [.int (juF (dr (R 20) lm) i)]) (rest := []) ⟨hx, hb, hml, hown, hts⟩ (c_L_amount l  (juF (dr (R 20) lm) i)) (va_cwS 1 hts gL_arePoints_L_amount rfl rfl rfl (by decide +kernel) ⟨Nat.le_of_ble_eq_true rfl, Nat.le_of_ble_eq_true rfl⟩) ⟨pc_blind, (fun U hU hW => ⟨rfl, trivial⟩)⟩ rfl rfl hl.1 rfl (lv_room (Nat.le_of_ble_eq_true rfl)) dL_arePoints_224 ⟨Nat.le_of_ble_eq_true rfl, Nat.le_of_ble_eq_true rfl⟩) hS hP (fun H locs hP hS => ?_)
                          refine lv_goto (tgt := 232) hx hb dL_arePoints_227 (by decide) ?_
                          refine cx_top (show (abI (juF (dr (R 20) lm) i)) = (gaS (juF (dr (R 20) lm)) (i + 1)) from ga_f (f := (juF (dr (R 20) lm))) c_219) ?_
                          refine lv_istore (lv' := [(8, .int (gaS (juF (dr (R 20) lm)) (i + 1))), (7, .int (gaS (diF (R 22) (dr (R 20) lm)) (i + 1))), (6, .int (mnS (dr (R 20) lm) (i + 1))), (5, .int (mgS (dr (R 20) lm) (i + 1))), (10, .int (juF (dr (R 20) lm) i)), (0, .ref (ad 0)), (1, .ref (ad 34)), (2, .ref (ad 35)), (3, .ref (ad 36)), (4, .ref (ad 37)), (9, .int (nI i))]) hx hb dL_arePoints_232 hl (by decide) rfl (fun ls hl => ?_)
                          refine lv_iinc (k := 10) (v := (nI (i + 1))) (lv' := [(9, .int (nI (i + 1))), (8, .int (gaS (juF (dr (R 20) lm)) (i + 1))), (7, .int (gaS (diF (R 22) (dr (R 20) lm)) (i + 1))), (6, .int (mnS (dr (R 20) lm) (i + 1))), (5, .int (mgS (dr (R 20) lm) (i + 1))), (10, .int (juF (dr (R 20) lm) i)), (0, .ref (ad 0)), (1, .ref (ad 34)), (2, .ref (ad 35)), (3, .ref (ad 36)), (4, .ref (ad 37))]) hx hb dL_arePoints_234 hl rfl (nI_add i 1) (by decide) rfl (fun ls hl => ?_)
                          refine lv_goto (tgt := 19) hx hb dL_arePoints_237 (by decide) ?_
                          exact ih_19 (i + 1) u_71 _ _ _ (by omega) (by omega) hP hS (lv_sub hl [6, 7, 8, 9, 10, 4, 3, 2, 1, 0] rfl)
                      · refine lv_aload_n hx hb dL_arePoints_192 rfl (lv_at hl 6 rfl) ?_
                        refine lv_iload hx hb dL_arePoints_193 (lv_at hl 10 rfl) ?_
                        refine cx_iald (k := i) hx hb hK hP 36 1 pw_36 rfl (by omega) (by decide) dL_arePoints_195 ?_
                        refine cx_top (y := ((R 22) i)) rfl ?_
                        refine lv_aload hx hb dL_arePoints_196 (lv_at hl 7 rfl) ?_
                        refine lv_iload hx hb dL_arePoints_198 (lv_at hl 10 rfl) ?_
                        refine cx_iald (k := i) hx hb hK hP 37 1 pw_37 rfl (by omega) (by decide) dL_arePoints_200 ?_
                        refine cx_top (y := ((R 23) i)) rfl ?_
                        refine lv_isub hx hb dL_arePoints_201 ?_
                        refine cx_top (show (((R 22) i) - ((R 23) i)) = (diF (R 22) (dr (R 20) lm) i) from by rw [ht]; rfl) ?_
                        refine cx_ri (va_runS (As := [.int (diF (R 22) (dr (R 20) lm) i)]) (rest := []) ⟨hx, hb, hml, hown, hts⟩ (c_L_amount l  (diF (R 22) (dr (R 20) lm) i)) (va_cwS 1 hts gL_arePoints_L_amount rfl rfl rfl (by decide +kernel) ⟨Nat.le_of_ble_eq_true rfl, Nat.le_of_ble_eq_true rfl⟩) ⟨pc_blind, (fun U hU hW => ⟨rfl, trivial⟩)⟩ rfl rfl hl.1 rfl (lv_room (Nat.le_of_ble_eq_true rfl)) dL_arePoints_202 ⟨Nat.le_of_ble_eq_true rfl, Nat.le_of_ble_eq_true rfl⟩) hS hP (fun H locs hP hS => ?_)
                        refine lv_goto (tgt := 210) hx hb dL_arePoints_205 (by decide) ?_
                        refine cx_top (show (abI (diF (R 22) (dr (R 20) lm) i)) = (gaS (diF (R 22) (dr (R 20) lm)) (i + 1)) from ga_f (f := (diF (R 22) (dr (R 20) lm))) c_189) ?_
                        refine lv_istore (lv' := [(7, .int (gaS (diF (R 22) (dr (R 20) lm)) (i + 1))), (6, .int (mnS (dr (R 20) lm) (i + 1))), (5, .int (mgS (dr (R 20) lm) (i + 1))), (10, .int (juF (dr (R 20) lm) i)), (0, .ref (ad 0)), (1, .ref (ad 34)), (2, .ref (ad 35)), (3, .ref (ad 36)), (4, .ref (ad 37)), (8, .int (gaS (juF (dr (R 20) lm)) i)), (9, .int (nI i))]) hx hb dL_arePoints_210 hl (by decide) rfl (fun ls hl => ?_)
                        refine lv_iload hx hb dL_arePoints_212 (lv_at hl 3 rfl) ?_
                        refine cx_ri (va_runS (As := [.int (juF (dr (R 20) lm) i)]) (rest := []) ⟨hx, hb, hml, hown, hts⟩ (c_L_amount l  (juF (dr (R 20) lm) i)) (va_cwS 1 hts gL_arePoints_L_amount rfl rfl rfl (by decide +kernel) ⟨Nat.le_of_ble_eq_true rfl, Nat.le_of_ble_eq_true rfl⟩) ⟨pc_blind, (fun U hU hW => ⟨rfl, trivial⟩)⟩ rfl rfl hl.1 rfl (lv_room (Nat.le_of_ble_eq_true rfl)) dL_arePoints_214 ⟨Nat.le_of_ble_eq_true rfl, Nat.le_of_ble_eq_true rfl⟩) hS hP (fun H locs hP hS => ?_)
                        refine lv_iload hx hb dL_arePoints_217 (lv_at hl 9 rfl) ?_
                        refine lv_icmp_le (tgt := 230) hx hb dL_arePoints_219 (by decide) (fun c_219 => ?_) (fun c_219 => ?_)
                        · refine lv_iload hx hb dL_arePoints_230 (lv_at hl 9 rfl) ?_
                          refine cx_top (show (gaS (juF (dr (R 20) lm)) i) = (gaS (juF (dr (R 20) lm)) (i + 1)) from ga_t (f := (juF (dr (R 20) lm))) c_219) ?_
                          refine lv_istore (lv' := [(8, .int (gaS (juF (dr (R 20) lm)) (i + 1))), (7, .int (gaS (diF (R 22) (dr (R 20) lm)) (i + 1))), (6, .int (mnS (dr (R 20) lm) (i + 1))), (5, .int (mgS (dr (R 20) lm) (i + 1))), (10, .int (juF (dr (R 20) lm) i)), (0, .ref (ad 0)), (1, .ref (ad 34)), (2, .ref (ad 35)), (3, .ref (ad 36)), (4, .ref (ad 37)), (9, .int (nI i))]) hx hb dL_arePoints_232 hl (by decide) rfl (fun ls hl => ?_)
                          refine lv_iinc (k := 10) (v := (nI (i + 1))) (lv' := [(9, .int (nI (i + 1))), (8, .int (gaS (juF (dr (R 20) lm)) (i + 1))), (7, .int (gaS (diF (R 22) (dr (R 20) lm)) (i + 1))), (6, .int (mnS (dr (R 20) lm) (i + 1))), (5, .int (mgS (dr (R 20) lm) (i + 1))), (10, .int (juF (dr (R 20) lm) i)), (0, .ref (ad 0)), (1, .ref (ad 34)), (2, .ref (ad 35)), (3, .ref (ad 36)), (4, .ref (ad 37))]) hx hb dL_arePoints_234 hl rfl (nI_add i 1) (by decide) rfl (fun ls hl => ?_)
                          refine lv_goto (tgt := 19) hx hb dL_arePoints_237 (by decide) ?_
                          exact ih_19 (i + 1) u_71 _ _ _ (by omega) (by omega) hP hS (lv_sub hl [6, 7, 8, 9, 10, 4, 3, 2, 1, 0] rfl)
                        · refine lv_iload hx hb dL_arePoints_222 (lv_at hl 3 rfl) ?_
                          refine cx_ri (va_runS (As := [.int (juF (dr (R 20) lm) i)]) (rest := []) ⟨hx, hb, hml, hown, hts⟩ (c_L_amount l  (juF (dr (R 20) lm) i)) (va_cwS 1 hts gL_arePoints_L_amount rfl rfl rfl (by decide +kernel) ⟨Nat.le_of_ble_eq_true rfl, Nat.le_of_ble_eq_true rfl⟩) ⟨pc_blind, (fun U hU hW => ⟨rfl, trivial⟩)⟩ rfl rfl hl.1 rfl (lv_room (Nat.le_of_ble_eq_true rfl)) dL_arePoints_224 ⟨Nat.le_of_ble_eq_true rfl, Nat.le_of_ble_eq_true rfl⟩) hS hP (fun H locs hP hS => ?_)
                          refine lv_goto (tgt := 232) hx hb dL_arePoints_227 (by decide) ?_
                          refine cx_top (show (abI (juF (dr (R 20) lm) i)) = (gaS (juF (dr (R 20) lm)) (i + 1)) from ga_f (f := (juF (dr (R 20) lm))) c_219) ?_
                          refine lv_istore (lv' := [(8, .int (gaS (juF (dr (R 20) lm)) (i + 1))), (7, .int (gaS (diF (R 22) (dr (R 20) lm)) (i + 1))), (6, .int (mnS (dr (R 20) lm) (i + 1))), (5, .int (mgS (dr (R 20) lm) (i + 1))), (10, .int (juF (dr (R 20) lm) i)), (0, .ref (ad 0)), (1, .ref (ad 34)), (2, .ref (ad 35)), (3, .ref (ad 36)), (4, .ref (ad 37)), (9, .int (nI i))]) hx hb dL_arePoints_232 hl (by decide) rfl (fun ls hl => ?_)
                          refine lv_iinc (k := 10) (v := (nI (i + 1))) (lv' := [(9, .int (nI (i + 1))), (8, .int (gaS (juF (dr (R 20) lm)) (i + 1))), (7, .int (gaS (diF (R 22) (dr (R 20) lm)) (i + 1))), (6, .int (mnS (dr (R 20) lm) (i + 1))), (5, .int (mgS (dr (R 20) lm) (i + 1))), (10, .int (juF (dr (R 20) lm) i)), (0, .ref (ad 0)), (1, .ref (ad 34)), (2, .ref (ad 35)), (3, .ref (ad 36)), (4, .ref (ad 37))]) hx hb dL_arePoints_234 hl rfl (nI_add i 1) (by decide) rfl (fun ls hl => ?_)
                          refine lv_goto (tgt := 19) hx hb dL_arePoints_237 (by decide) ?_
                          exact ih_19 (i + 1) u_71 _ _ _ (by omega) (by omega) hP hS (lv_sub hl [6, 7, 8, 9, 10, 4, 3, 2, 1, 0] rfl)
                    · refine lv_aload hx hb dL_arePoints_162 (lv_at hl 6 rfl) ?_
                      refine lv_iload hx hb dL_arePoints_164 (lv_at hl 10 rfl) ?_
                      refine cx_iald (k := i) hx hb hK hP 37 1 pw_37 rfl (by omega) (by decide) dL_arePoints_166 ?_
                      refine cx_top (y := ((R 23) i)) rfl ?_
                      refine lv_goto (tgt := 172) hx hb dL_arePoints_167 (by decide) ?_
                      refine cx_top (show ((R 23) i) = (mnS (dr (R 20) lm) (i + 1)) from mn_f ht c_159) ?_
                      refine lv_istore (lv' := [(6, .int (mnS (dr (R 20) lm) (i + 1))), (5, .int (mgS (dr (R 20) lm) (i + 1))), (10, .int (juF (dr (R 20) lm) i)), (0, .ref (ad 0)), (1, .ref (ad 34)), (2, .ref (ad 35)), (3, .ref (ad 36)), (4, .ref (ad 37)), (7, .int (gaS (diF (R 22) (dr (R 20) lm)) i)), (8, .int (gaS (juF (dr (R 20) lm)) i)), (9, .int (nI i))]) hx hb dL_arePoints_172 hl (by decide) rfl (fun ls hl => ?_)
                      refine lv_aload_n hx hb dL_arePoints_174 rfl (lv_at hl 6 rfl) ?_
                      refine lv_iload hx hb dL_arePoints_175 (lv_at hl 10 rfl) ?_
                      refine cx_iald (k := i) hx hb hK hP 36 1 pw_36 rfl (by omega) (by decide) dL_arePoints_177 ?_
                      refine cx_top (y := ((R 22) i)) rfl ?_
                      refine lv_aload hx hb dL_arePoints_178 (lv_at hl 7 rfl) ?_
                      refine lv_iload hx hb dL_arePoints_180 (lv_at hl 10 rfl) ?_
                      refine cx_iald (k := i) hx hb hK hP 37 1 pw_37 rfl (by omega) (by decide) dL_arePoints_182 ?_
                      refine cx_top (y := ((R 23) i)) rfl ?_
                      refine lv_isub hx hb dL_arePoints_183 ?_
                      refine cx_top (show (((R 22) i) - ((R 23) i)) = (diF (R 22) (dr (R 20) lm) i) from by rw [ht]; rfl) ?_
                      refine cx_ri (va_runS (As := [.int (diF (R 22) (dr (R 20) lm) i)]) (rest := []) ⟨hx, hb, hml, hown, hts⟩ (c_L_amount l  (diF (R 22) (dr (R 20) lm) i)) (va_cwS 1 hts gL_arePoints_L_amount rfl rfl rfl (by decide +kernel) ⟨Nat.le_of_ble_eq_true rfl, Nat.le_of_ble_eq_true rfl⟩) ⟨pc_blind, (fun U hU hW => ⟨rfl, trivial⟩)⟩ rfl rfl hl.1 rfl (lv_room (Nat.le_of_ble_eq_true rfl)) dL_arePoints_184 ⟨Nat.le_of_ble_eq_true rfl, Nat.le_of_ble_eq_true rfl⟩) hS hP (fun H locs hP hS => ?_)
                      refine lv_iload hx hb dL_arePoints_187 (lv_at hl 8 rfl) ?_
                      refine lv_icmp_le (tgt := 208) hx hb dL_arePoints_189 (by decide) (fun c_189 => ?_) (fun c_189 => ?_)
                      · refine lv_iload hx hb dL_arePoints_208 (lv_at hl 8 rfl) ?_
                        refine cx_top (show (gaS (diF (R 22) (dr (R 20) lm)) i) = (gaS (diF (R 22) (dr (R 20) lm)) (i + 1)) from ga_t (f := (diF (R 22) (dr (R 20) lm))) c_189) ?_
                        refine lv_istore (lv' := [(7, .int (gaS (diF (R 22) (dr (R 20) lm)) (i + 1))), (6, .int (mnS (dr (R 20) lm) (i + 1))), (5, .int (mgS (dr (R 20) lm) (i + 1))), (10, .int (juF (dr (R 20) lm) i)), (0, .ref (ad 0)), (1, .ref (ad 34)), (2, .ref (ad 35)), (3, .ref (ad 36)), (4, .ref (ad 37)), (8, .int (gaS (juF (dr (R 20) lm)) i)), (9, .int (nI i))]) hx hb dL_arePoints_210 hl (by decide) rfl (fun ls hl => ?_)
                        refine lv_iload hx hb dL_arePoints_212 (lv_at hl 3 rfl) ?_
                        refine cx_ri (va_runS (As := [.int (juF (dr (R 20) lm) i)]) (rest := []) ⟨hx, hb, hml, hown, hts⟩ (c_L_amount l  (juF (dr (R 20) lm) i)) (va_cwS 1 hts gL_arePoints_L_amount rfl rfl rfl (by decide +kernel) ⟨Nat.le_of_ble_eq_true rfl, Nat.le_of_ble_eq_true rfl⟩) ⟨pc_blind, (fun U hU hW => ⟨rfl, trivial⟩)⟩ rfl rfl hl.1 rfl (lv_room (Nat.le_of_ble_eq_true rfl)) dL_arePoints_214 ⟨Nat.le_of_ble_eq_true rfl, Nat.le_of_ble_eq_true rfl⟩) hS hP (fun H locs hP hS => ?_)
                        refine lv_iload hx hb dL_arePoints_217 (lv_at hl 9 rfl) ?_
                        refine lv_icmp_le (tgt := 230) hx hb dL_arePoints_219 (by decide) (fun c_219 => ?_) (fun c_219 => ?_)
                        · refine lv_iload hx hb dL_arePoints_230 (lv_at hl 9 rfl) ?_
                          refine cx_top (show (gaS (juF (dr (R 20) lm)) i) = (gaS (juF (dr (R 20) lm)) (i + 1)) from ga_t (f := (juF (dr (R 20) lm))) c_219) ?_
                          refine lv_istore (lv' := [(8, .int (gaS (juF (dr (R 20) lm)) (i + 1))), (7, .int (gaS (diF (R 22) (dr (R 20) lm)) (i + 1))), (6, .int (mnS (dr (R 20) lm) (i + 1))), (5, .int (mgS (dr (R 20) lm) (i + 1))), (10, .int (juF (dr (R 20) lm) i)), (0, .ref (ad 0)), (1, .ref (ad 34)), (2, .ref (ad 35)), (3, .ref (ad 36)), (4, .ref (ad 37)), (9, .int (nI i))]) hx hb dL_arePoints_232 hl (by decide) rfl (fun ls hl => ?_)
                          refine lv_iinc (k := 10) (v := (nI (i + 1))) (lv' := [(9, .int (nI (i + 1))), (8, .int (gaS (juF (dr (R 20) lm)) (i + 1))), (7, .int (gaS (diF (R 22) (dr (R 20) lm)) (i + 1))), (6, .int (mnS (dr (R 20) lm) (i + 1))), (5, .int (mgS (dr (R 20) lm) (i + 1))), (10, .int (juF (dr (R 20) lm) i)), (0, .ref (ad 0)), (1, .ref (ad 34)), (2, .ref (ad 35)), (3, .ref (ad 36)), (4, .ref (ad 37))]) hx hb dL_arePoints_234 hl rfl (nI_add i 1) (by decide) rfl (fun ls hl => ?_)
                          refine lv_goto (tgt := 19) hx hb dL_arePoints_237 (by decide) ?_
                          exact ih_19 (i + 1) u_71 _ _ _ (by omega) (by omega) hP hS (lv_sub hl [6, 7, 8, 9, 10, 4, 3, 2, 1, 0] rfl)
                        · refine lv_iload hx hb dL_arePoints_222 (lv_at hl 3 rfl) ?_
                          refine cx_ri (va_runS (As := [.int (juF (dr (R 20) lm) i)]) (rest := []) ⟨hx, hb, hml, hown, hts⟩ (c_L_amount l  (juF (dr (R 20) lm) i)) (va_cwS 1 hts gL_arePoints_L_amount rfl rfl rfl (by decide +kernel) ⟨Nat.le_of_ble_eq_true rfl, Nat.le_of_ble_eq_true rfl⟩) ⟨pc_blind, (fun U hU hW => ⟨rfl, trivial⟩)⟩ rfl rfl hl.1 rfl (lv_room (Nat.le_of_ble_eq_true rfl)) dL_arePoints_224 ⟨Nat.le_of_ble_eq_true rfl, Nat.le_of_ble_eq_true rfl⟩) hS hP (fun H locs hP hS => ?_)
                          refine lv_goto (tgt := 232) hx hb dL_arePoints_227 (by decide) ?_
                          refine cx_top (show (abI (juF (dr (R 20) lm) i)) = (gaS (juF (dr (R 20) lm)) (i + 1)) from ga_f (f := (juF (dr (R 20) lm))) c_219) ?_
                          refine lv_istore (lv' := [(8, .int (gaS (juF (dr (R 20) lm)) (i + 1))), (7, .int (gaS (diF (R 22) (dr (R 20) lm)) (i + 1))), (6, .int (mnS (dr (R 20) lm) (i + 1))), (5, .int (mgS (dr (R 20) lm) (i + 1))), (10, .int (juF (dr (R 20) lm) i)), (0, .ref (ad 0)), (1, .ref (ad 34)), (2, .ref (ad 35)), (3, .ref (ad 36)), (4, .ref (ad 37)), (9, .int (nI i))]) hx hb dL_arePoints_232 hl (by decide) rfl (fun ls hl => ?_)
                          refine lv_iinc (k := 10) (v := (nI (i + 1))) (lv' := [(9, .int (nI (i + 1))), (8, .int (gaS (juF (dr (R 20) lm)) (i + 1))), (7, .int (gaS (diF (R 22) (dr (R 20) lm)) (i + 1))), (6, .int (mnS (dr (R 20) lm) (i + 1))), (5, .int (mgS (dr (R 20) lm) (i + 1))), (10, .int (juF (dr (R 20) lm) i)), (0, .ref (ad 0)), (1, .ref (ad 34)), (2, .ref (ad 35)), (3, .ref (ad 36)), (4, .ref (ad 37))]) hx hb dL_arePoints_234 hl rfl (nI_add i 1) (by decide) rfl (fun ls hl => ?_)
                          refine lv_goto (tgt := 19) hx hb dL_arePoints_237 (by decide) ?_
                          exact ih_19 (i + 1) u_71 _ _ _ (by omega) (by omega) hP hS (lv_sub hl [6, 7, 8, 9, 10, 4, 3, 2, 1, 0] rfl)
                      · refine lv_aload_n hx hb dL_arePoints_192 rfl (lv_at hl 6 rfl) ?_
                        refine lv_iload hx hb dL_arePoints_193 (lv_at hl 10 rfl) ?_
                        refine cx_iald (k := i) hx hb hK hP 36 1 pw_36 rfl (by omega) (by decide) dL_arePoints_195 ?_
                        refine cx_top (y := ((R 22) i)) rfl ?_
                        refine lv_aload hx hb dL_arePoints_196 (lv_at hl 7 rfl) ?_
                        refine lv_iload hx hb dL_arePoints_198 (lv_at hl 10 rfl) ?_
                        refine cx_iald (k := i) hx hb hK hP 37 1 pw_37 rfl (by omega) (by decide) dL_arePoints_200 ?_
                        refine cx_top (y := ((R 23) i)) rfl ?_
                        refine lv_isub hx hb dL_arePoints_201 ?_
                        refine cx_top (show (((R 22) i) - ((R 23) i)) = (diF (R 22) (dr (R 20) lm) i) from by rw [ht]; rfl) ?_
                        refine cx_ri (va_runS (As := [.int (diF (R 22) (dr (R 20) lm) i)]) (rest := []) ⟨hx, hb, hml, hown, hts⟩ (c_L_amount l  (diF (R 22) (dr (R 20) lm) i)) (va_cwS 1 hts gL_arePoints_L_amount rfl rfl rfl (by decide +kernel) ⟨Nat.le_of_ble_eq_true rfl, Nat.le_of_ble_eq_true rfl⟩) ⟨pc_blind, (fun U hU hW => ⟨rfl, trivial⟩)⟩ rfl rfl hl.1 rfl (lv_room (Nat.le_of_ble_eq_true rfl)) dL_arePoints_202 ⟨Nat.le_of_ble_eq_true rfl, Nat.le_of_ble_eq_true rfl⟩) hS hP (fun H locs hP hS => ?_)
                        refine lv_goto (tgt := 210) hx hb dL_arePoints_205 (by decide) ?_
                        refine cx_top (show (abI (diF (R 22) (dr (R 20) lm) i)) = (gaS (diF (R 22) (dr (R 20) lm)) (i + 1)) from ga_f (f := (diF (R 22) (dr (R 20) lm))) c_189) ?_
                        refine lv_istore (lv' := [(7, .int (gaS (diF (R 22) (dr (R 20) lm)) (i + 1))), (6, .int (mnS (dr (R 20) lm) (i + 1))), (5, .int (mgS (dr (R 20) lm) (i + 1))), (10, .int (juF (dr (R 20) lm) i)), (0, .ref (ad 0)), (1, .ref (ad 34)), (2, .ref (ad 35)), (3, .ref (ad 36)), (4, .ref (ad 37)), (8, .int (gaS (juF (dr (R 20) lm)) i)), (9, .int (nI i))]) hx hb dL_arePoints_210 hl (by decide) rfl (fun ls hl => ?_)
                        refine lv_iload hx hb dL_arePoints_212 (lv_at hl 3 rfl) ?_
                        refine cx_ri (va_runS (As := [.int (juF (dr (R 20) lm) i)]) (rest := []) ⟨hx, hb, hml, hown, hts⟩ (c_L_amount l  (juF (dr (R 20) lm) i)) (va_cwS 1 hts gL_arePoints_L_amount rfl rfl rfl (by decide +kernel) ⟨Nat.le_of_ble_eq_true rfl, Nat.le_of_ble_eq_true rfl⟩) ⟨pc_blind, (fun U hU hW => ⟨rfl, trivial⟩)⟩ rfl rfl hl.1 rfl (lv_room (Nat.le_of_ble_eq_true rfl)) dL_arePoints_214 ⟨Nat.le_of_ble_eq_true rfl, Nat.le_of_ble_eq_true rfl⟩) hS hP (fun H locs hP hS => ?_)
                        refine lv_iload hx hb dL_arePoints_217 (lv_at hl 9 rfl) ?_
                        refine lv_icmp_le (tgt := 230) hx hb dL_arePoints_219 (by decide) (fun c_219 => ?_) (fun c_219 => ?_)
                        · refine lv_iload hx hb dL_arePoints_230 (lv_at hl 9 rfl) ?_
                          refine cx_top (show (gaS (juF (dr (R 20) lm)) i) = (gaS (juF (dr (R 20) lm)) (i + 1)) from ga_t (f := (juF (dr (R 20) lm))) c_219) ?_
                          refine lv_istore (lv' := [(8, .int (gaS (juF (dr (R 20) lm)) (i + 1))), (7, .int (gaS (diF (R 22) (dr (R 20) lm)) (i + 1))), (6, .int (mnS (dr (R 20) lm) (i + 1))), (5, .int (mgS (dr (R 20) lm) (i + 1))), (10, .int (juF (dr (R 20) lm) i)), (0, .ref (ad 0)), (1, .ref (ad 34)), (2, .ref (ad 35)), (3, .ref (ad 36)), (4, .ref (ad 37)), (9, .int (nI i))]) hx hb dL_arePoints_232 hl (by decide) rfl (fun ls hl => ?_)
                          refine lv_iinc (k := 10) (v := (nI (i + 1))) (lv' := [(9, .int (nI (i + 1))), (8, .int (gaS (juF (dr (R 20) lm)) (i + 1))), (7, .int (gaS (diF (R 22) (dr (R 20) lm)) (i + 1))), (6, .int (mnS (dr (R 20) lm) (i + 1))), (5, .int (mgS (dr (R 20) lm) (i + 1))), (10, .int (juF (dr (R 20) lm) i)), (0, .ref (ad 0)), (1, .ref (ad 34)), (2, .ref (ad 35)), (3, .ref (ad 36)), (4, .ref (ad 37))]) hx hb dL_arePoints_234 hl rfl (nI_add i 1) (by decide) rfl (fun ls hl => ?_)
                          refine lv_goto (tgt := 19) hx hb dL_arePoints_237 (by decide) ?_
                          exact ih_19 (i + 1) u_71 _ _ _ (by omega) (by omega) hP hS (lv_sub hl [6, 7, 8, 9, 10, 4, 3, 2, 1, 0] rfl)
                        · refine lv_iload hx hb dL_arePoints_222 (lv_at hl 3 rfl) ?_
                          refine cx_ri (va_runS (As := [.int (juF (dr (R 20) lm) i)]) (rest := []) ⟨hx, hb, hml, hown, hts⟩ (c_L_amount l  (juF (dr (R 20) lm) i)) (va_cwS 1 hts gL_arePoints_L_amount rfl rfl rfl (by decide +kernel) ⟨Nat.le_of_ble_eq_true rfl, Nat.le_of_ble_eq_true rfl⟩) ⟨pc_blind, (fun U hU hW => ⟨rfl, trivial⟩)⟩ rfl rfl hl.1 rfl (lv_room (Nat.le_of_ble_eq_true rfl)) dL_arePoints_224 ⟨Nat.le_of_ble_eq_true rfl, Nat.le_of_ble_eq_true rfl⟩) hS hP (fun H locs hP hS => ?_)
                          refine lv_goto (tgt := 232) hx hb dL_arePoints_227 (by decide) ?_
                          refine cx_top (show (abI (juF (dr (R 20) lm) i)) = (gaS (juF (dr (R 20) lm)) (i + 1)) from ga_f (f := (juF (dr (R 20) lm))) c_219) ?_
                          refine lv_istore (lv' := [(8, .int (gaS (juF (dr (R 20) lm)) (i + 1))), (7, .int (gaS (diF (R 22) (dr (R 20) lm)) (i + 1))), (6, .int (mnS (dr (R 20) lm) (i + 1))), (5, .int (mgS (dr (R 20) lm) (i + 1))), (10, .int (juF (dr (R 20) lm) i)), (0, .ref (ad 0)), (1, .ref (ad 34)), (2, .ref (ad 35)), (3, .ref (ad 36)), (4, .ref (ad 37)), (9, .int (nI i))]) hx hb dL_arePoints_232 hl (by decide) rfl (fun ls hl => ?_)
                          refine lv_iinc (k := 10) (v := (nI (i + 1))) (lv' := [(9, .int (nI (i + 1))), (8, .int (gaS (juF (dr (R 20) lm)) (i + 1))), (7, .int (gaS (diF (R 22) (dr (R 20) lm)) (i + 1))), (6, .int (mnS (dr (R 20) lm) (i + 1))), (5, .int (mgS (dr (R 20) lm) (i + 1))), (10, .int (juF (dr (R 20) lm) i)), (0, .ref (ad 0)), (1, .ref (ad 34)), (2, .ref (ad 35)), (3, .ref (ad 36)), (4, .ref (ad 37))]) hx hb dL_arePoints_234 hl rfl (nI_add i 1) (by decide) rfl (fun ls hl => ?_)
                          refine lv_goto (tgt := 19) hx hb dL_arePoints_237 (by decide) ?_
                          exact ih_19 (i + 1) u_71 _ _ _ (by omega) (by omega) hP hS (lv_sub hl [6, 7, 8, 9, 10, 4, 3, 2, 1, 0] rfl)
                  · refine lv_aload hx hb dL_arePoints_140 (lv_at hl 5 rfl) ?_
                    refine lv_iload hx hb dL_arePoints_142 (lv_at hl 10 rfl) ?_
                    refine cx_iald (k := i) hx hb hK hP 37 1 pw_37 rfl (by omega) (by decide) dL_arePoints_144 ?_
                    refine cx_top (y := ((R 23) i)) rfl ?_
                    refine lv_goto (tgt := 150) hx hb dL_arePoints_145 (by decide) ?_
                    refine cx_top (show ((R 23) i) = (mgS (dr (R 20) lm) (i + 1)) from mg_f ht c_137) ?_
                    refine lv_istore (lv' := [(5, .int (mgS (dr (R 20) lm) (i + 1))), (10, .int (juF (dr (R 20) lm) i)), (0, .ref (ad 0)), (1, .ref (ad 34)), (2, .ref (ad 35)), (3, .ref (ad 36)), (4, .ref (ad 37)), (6, .int (mnS (dr (R 20) lm) i)), (7, .int (gaS (diF (R 22) (dr (R 20) lm)) i)), (8, .int (gaS (juF (dr (R 20) lm)) i)), (9, .int (nI i))]) hx hb dL_arePoints_150 hl (by decide) rfl (fun ls hl => ?_)
                    refine lv_aload hx hb dL_arePoints_152 (lv_at hl 6 rfl) ?_
                    refine lv_iload hx hb dL_arePoints_154 (lv_at hl 10 rfl) ?_
                    refine cx_iald (k := i) hx hb hK hP 37 1 pw_37 rfl (by omega) (by decide) dL_arePoints_156 ?_
                    refine cx_top (y := ((R 23) i)) rfl ?_
                    refine lv_iload hx hb dL_arePoints_157 (lv_at hl 7 rfl) ?_
                    refine lv_icmp_ge (tgt := 170) hx hb dL_arePoints_159 (by decide) (fun c_159 => ?_) (fun c_159 => ?_)
                    · refine lv_iload hx hb dL_arePoints_170 (lv_at hl 7 rfl) ?_
                      refine cx_top (show (mnS (dr (R 20) lm) i) = (mnS (dr (R 20) lm) (i + 1)) from mn_t ht c_159) ?_
                      refine lv_istore (lv' := [(6, .int (mnS (dr (R 20) lm) (i + 1))), (5, .int (mgS (dr (R 20) lm) (i + 1))), (10, .int (juF (dr (R 20) lm) i)), (0, .ref (ad 0)), (1, .ref (ad 34)), (2, .ref (ad 35)), (3, .ref (ad 36)), (4, .ref (ad 37)), (7, .int (gaS (diF (R 22) (dr (R 20) lm)) i)), (8, .int (gaS (juF (dr (R 20) lm)) i)), (9, .int (nI i))]) hx hb dL_arePoints_172 hl (by decide) rfl (fun ls hl => ?_)
                      refine lv_aload_n hx hb dL_arePoints_174 rfl (lv_at hl 6 rfl) ?_
                      refine lv_iload hx hb dL_arePoints_175 (lv_at hl 10 rfl) ?_
                      refine cx_iald (k := i) hx hb hK hP 36 1 pw_36 rfl (by omega) (by decide) dL_arePoints_177 ?_
                      refine cx_top (y := ((R 22) i)) rfl ?_
                      refine lv_aload hx hb dL_arePoints_178 (lv_at hl 7 rfl) ?_
                      refine lv_iload hx hb dL_arePoints_180 (lv_at hl 10 rfl) ?_
                      refine cx_iald (k := i) hx hb hK hP 37 1 pw_37 rfl (by omega) (by decide) dL_arePoints_182 ?_
                      refine cx_top (y := ((R 23) i)) rfl ?_
                      refine lv_isub hx hb dL_arePoints_183 ?_
                      refine cx_top (show (((R 22) i) - ((R 23) i)) = (diF (R 22) (dr (R 20) lm) i) from by rw [ht]; rfl) ?_
                      refine cx_ri (va_runS (As := [.int (diF (R 22) (dr (R 20) lm) i)]) (rest := []) ⟨hx, hb, hml, hown, hts⟩ (c_L_amount l  (diF (R 22) (dr (R 20) lm) i)) (va_cwS 1 hts gL_arePoints_L_amount rfl rfl rfl (by decide +kernel) ⟨Nat.le_of_ble_eq_true rfl, Nat.le_of_ble_eq_true rfl⟩) ⟨pc_blind, (fun U hU hW => ⟨rfl, trivial⟩)⟩ rfl rfl hl.1 rfl (lv_room (Nat.le_of_ble_eq_true rfl)) dL_arePoints_184 ⟨Nat.le_of_ble_eq_true rfl, Nat.le_of_ble_eq_true rfl⟩) hS hP (fun H locs hP hS => ?_)
                      refine lv_iload hx hb dL_arePoints_187 (lv_at hl 8 rfl) ?_
                      refine lv_icmp_le (tgt := 208) hx hb dL_arePoints_189 (by decide) (fun c_189 => ?_) (fun c_189 => ?_)
                      · refine lv_iload hx hb dL_arePoints_208 (lv_at hl 8 rfl) ?_
                        refine cx_top (show (gaS (diF (R 22) (dr (R 20) lm)) i) = (gaS (diF (R 22) (dr (R 20) lm)) (i + 1)) from ga_t (f := (diF (R 22) (dr (R 20) lm))) c_189) ?_
                        refine lv_istore (lv' := [(7, .int (gaS (diF (R 22) (dr (R 20) lm)) (i + 1))), (6, .int (mnS (dr (R 20) lm) (i + 1))), (5, .int (mgS (dr (R 20) lm) (i + 1))), (10, .int (juF (dr (R 20) lm) i)), (0, .ref (ad 0)), (1, .ref (ad 34)), (2, .ref (ad 35)), (3, .ref (ad 36)), (4, .ref (ad 37)), (8, .int (gaS (juF (dr (R 20) lm)) i)), (9, .int (nI i))]) hx hb dL_arePoints_210 hl (by decide) rfl (fun ls hl => ?_)
                        refine lv_iload hx hb dL_arePoints_212 (lv_at hl 3 rfl) ?_
                        refine cx_ri (va_runS (As := [.int (juF (dr (R 20) lm) i)]) (rest := []) ⟨hx, hb, hml, hown, hts⟩ (c_L_amount l  (juF (dr (R 20) lm) i)) (va_cwS 1 hts gL_arePoints_L_amount rfl rfl rfl (by decide +kernel) ⟨Nat.le_of_ble_eq_true rfl, Nat.le_of_ble_eq_true rfl⟩) ⟨pc_blind, (fun U hU hW => ⟨rfl, trivial⟩)⟩ rfl rfl hl.1 rfl (lv_room (Nat.le_of_ble_eq_true rfl)) dL_arePoints_214 ⟨Nat.le_of_ble_eq_true rfl, Nat.le_of_ble_eq_true rfl⟩) hS hP (fun H locs hP hS => ?_)
                        refine lv_iload hx hb dL_arePoints_217 (lv_at hl 9 rfl) ?_
                        refine lv_icmp_le (tgt := 230) hx hb dL_arePoints_219 (by decide) (fun c_219 => ?_) (fun c_219 => ?_)
                        · refine lv_iload hx hb dL_arePoints_230 (lv_at hl 9 rfl) ?_
                          refine cx_top (show (gaS (juF (dr (R 20) lm)) i) = (gaS (juF (dr (R 20) lm)) (i + 1)) from ga_t (f := (juF (dr (R 20) lm))) c_219) ?_
                          refine lv_istore (lv' := [(8, .int (gaS (juF (dr (R 20) lm)) (i + 1))), (7, .int (gaS (diF (R 22) (dr (R 20) lm)) (i + 1))), (6, .int (mnS (dr (R 20) lm) (i + 1))), (5, .int (mgS (dr (R 20) lm) (i + 1))), (10, .int (juF (dr (R 20) lm) i)), (0, .ref (ad 0)), (1, .ref (ad 34)), (2, .ref (ad 35)), (3, .ref (ad 36)), (4, .ref (ad 37)), (9, .int (nI i))]) hx hb dL_arePoints_232 hl (by decide) rfl (fun ls hl => ?_)
                          refine lv_iinc (k := 10) (v := (nI (i + 1))) (lv' := [(9, .int (nI (i + 1))), (8, .int (gaS (juF (dr (R 20) lm)) (i + 1))), (7, .int (gaS (diF (R 22) (dr (R 20) lm)) (i + 1))), (6, .int (mnS (dr (R 20) lm) (i + 1))), (5, .int (mgS (dr (R 20) lm) (i + 1))), (10, .int (juF (dr (R 20) lm) i)), (0, .ref (ad 0)), (1, .ref (ad 34)), (2, .ref (ad 35)), (3, .ref (ad 36)), (4, .ref (ad 37))]) hx hb dL_arePoints_234 hl rfl (nI_add i 1) (by decide) rfl (fun ls hl => ?_)
                          refine lv_goto (tgt := 19) hx hb dL_arePoints_237 (by decide) ?_
                          exact ih_19 (i + 1) u_71 _ _ _ (by omega) (by omega) hP hS (lv_sub hl [6, 7, 8, 9, 10, 4, 3, 2, 1, 0] rfl)
                        · refine lv_iload hx hb dL_arePoints_222 (lv_at hl 3 rfl) ?_
                          refine cx_ri (va_runS (As := [.int (juF (dr (R 20) lm) i)]) (rest := []) ⟨hx, hb, hml, hown, hts⟩ (c_L_amount l  (juF (dr (R 20) lm) i)) (va_cwS 1 hts gL_arePoints_L_amount rfl rfl rfl (by decide +kernel) ⟨Nat.le_of_ble_eq_true rfl, Nat.le_of_ble_eq_true rfl⟩) ⟨pc_blind, (fun U hU hW => ⟨rfl, trivial⟩)⟩ rfl rfl hl.1 rfl (lv_room (Nat.le_of_ble_eq_true rfl)) dL_arePoints_224 ⟨Nat.le_of_ble_eq_true rfl, Nat.le_of_ble_eq_true rfl⟩) hS hP (fun H locs hP hS => ?_)
                          refine lv_goto (tgt := 232) hx hb dL_arePoints_227 (by decide) ?_
                          refine cx_top (show (abI (juF (dr (R 20) lm) i)) = (gaS (juF (dr (R 20) lm)) (i + 1)) from ga_f (f := (juF (dr (R 20) lm))) c_219) ?_
                          refine lv_istore (lv' := [(8, .int (gaS (juF (dr (R 20) lm)) (i + 1))), (7, .int (gaS (diF (R 22) (dr (R 20) lm)) (i + 1))), (6, .int (mnS (dr (R 20) lm) (i + 1))), (5, .int (mgS (dr (R 20) lm) (i + 1))), (10, .int (juF (dr (R 20) lm) i)), (0, .ref (ad 0)), (1, .ref (ad 34)), (2, .ref (ad 35)), (3, .ref (ad 36)), (4, .ref (ad 37)), (9, .int (nI i))]) hx hb dL_arePoints_232 hl (by decide) rfl (fun ls hl => ?_)
                          refine lv_iinc (k := 10) (v := (nI (i + 1))) (lv' := [(9, .int (nI (i + 1))), (8, .int (gaS (juF (dr (R 20) lm)) (i + 1))), (7, .int (gaS (diF (R 22) (dr (R 20) lm)) (i + 1))), (6, .int (mnS (dr (R 20) lm) (i + 1))), (5, .int (mgS (dr (R 20) lm) (i + 1))), (10, .int (juF (dr (R 20) lm) i)), (0, .ref (ad 0)), (1, .ref (ad 34)), (2, .ref (ad 35)), (3, .ref (ad 36)), (4, .ref (ad 37))]) hx hb dL_arePoints_234 hl rfl (nI_add i 1) (by decide) rfl (fun ls hl => ?_)
                          refine lv_goto (tgt := 19) hx hb dL_arePoints_237 (by decide) ?_
                          exact ih_19 (i + 1) u_71 _ _ _ (by omega) (by omega) hP hS (lv_sub hl [6, 7, 8, 9, 10, 4, 3, 2, 1, 0] rfl)
                      · refine lv_aload_n hx hb dL_arePoints_192 rfl (lv_at hl 6 rfl) ?_
                        refine lv_iload hx hb dL_arePoints_193 (lv_at hl 10 rfl) ?_
                        refine cx_iald (k := i) hx hb hK hP 36 1 pw_36 rfl (by omega) (by decide) dL_arePoints_195 ?_
                        refine cx_top (y := ((R 22) i)) rfl ?_
                        refine lv_aload hx hb dL_arePoints_196 (lv_at hl 7 rfl) ?_
                        refine lv_iload hx hb dL_arePoints_198 (lv_at hl 10 rfl) ?_
                        refine cx_iald (k := i) hx hb hK hP 37 1 pw_37 rfl (by omega) (by decide) dL_arePoints_200 ?_
                        refine cx_top (y := ((R 23) i)) rfl ?_
                        refine lv_isub hx hb dL_arePoints_201 ?_
                        refine cx_top (show (((R 22) i) - ((R 23) i)) = (diF (R 22) (dr (R 20) lm) i) from by rw [ht]; rfl) ?_
                        refine cx_ri (va_runS (As := [.int (diF (R 22) (dr (R 20) lm) i)]) (rest := []) ⟨hx, hb, hml, hown, hts⟩ (c_L_amount l  (diF (R 22) (dr (R 20) lm) i)) (va_cwS 1 hts gL_arePoints_L_amount rfl rfl rfl (by decide +kernel) ⟨Nat.le_of_ble_eq_true rfl, Nat.le_of_ble_eq_true rfl⟩) ⟨pc_blind, (fun U hU hW => ⟨rfl, trivial⟩)⟩ rfl rfl hl.1 rfl (lv_room (Nat.le_of_ble_eq_true rfl)) dL_arePoints_202 ⟨Nat.le_of_ble_eq_true rfl, Nat.le_of_ble_eq_true rfl⟩) hS hP (fun H locs hP hS => ?_)
                        refine lv_goto (tgt := 210) hx hb dL_arePoints_205 (by decide) ?_
                        refine cx_top (show (abI (diF (R 22) (dr (R 20) lm) i)) = (gaS (diF (R 22) (dr (R 20) lm)) (i + 1)) from ga_f (f := (diF (R 22) (dr (R 20) lm))) c_189) ?_
                        refine lv_istore (lv' := [(7, .int (gaS (diF (R 22) (dr (R 20) lm)) (i + 1))), (6, .int (mnS (dr (R 20) lm) (i + 1))), (5, .int (mgS (dr (R 20) lm) (i + 1))), (10, .int (juF (dr (R 20) lm) i)), (0, .ref (ad 0)), (1, .ref (ad 34)), (2, .ref (ad 35)), (3, .ref (ad 36)), (4, .ref (ad 37)), (8, .int (gaS (juF (dr (R 20) lm)) i)), (9, .int (nI i))]) hx hb dL_arePoints_210 hl (by decide) rfl (fun ls hl => ?_)
                        refine lv_iload hx hb dL_arePoints_212 (lv_at hl 3 rfl) ?_
                        refine cx_ri (va_runS (As := [.int (juF (dr (R 20) lm) i)]) (rest := []) ⟨hx, hb, hml, hown, hts⟩ (c_L_amount l  (juF (dr (R 20) lm) i)) (va_cwS 1 hts gL_arePoints_L_amount rfl rfl rfl (by decide +kernel) ⟨Nat.le_of_ble_eq_true rfl, Nat.le_of_ble_eq_true rfl⟩) ⟨pc_blind, (fun U hU hW => ⟨rfl, trivial⟩)⟩ rfl rfl hl.1 rfl (lv_room (Nat.le_of_ble_eq_true rfl)) dL_arePoints_214 ⟨Nat.le_of_ble_eq_true rfl, Nat.le_of_ble_eq_true rfl⟩) hS hP (fun H locs hP hS => ?_)
                        refine lv_iload hx hb dL_arePoints_217 (lv_at hl 9 rfl) ?_
                        refine lv_icmp_le (tgt := 230) hx hb dL_arePoints_219 (by decide) (fun c_219 => ?_) (fun c_219 => ?_)
                        · refine lv_iload hx hb dL_arePoints_230 (lv_at hl 9 rfl) ?_
                          refine cx_top (show (gaS (juF (dr (R 20) lm)) i) = (gaS (juF (dr (R 20) lm)) (i + 1)) from ga_t (f := (juF (dr (R 20) lm))) c_219) ?_
                          refine lv_istore (lv' := [(8, .int (gaS (juF (dr (R 20) lm)) (i + 1))), (7, .int (gaS (diF (R 22) (dr (R 20) lm)) (i + 1))), (6, .int (mnS (dr (R 20) lm) (i + 1))), (5, .int (mgS (dr (R 20) lm) (i + 1))), (10, .int (juF (dr (R 20) lm) i)), (0, .ref (ad 0)), (1, .ref (ad 34)), (2, .ref (ad 35)), (3, .ref (ad 36)), (4, .ref (ad 37)), (9, .int (nI i))]) hx hb dL_arePoints_232 hl (by decide) rfl (fun ls hl => ?_)
                          refine lv_iinc (k := 10) (v := (nI (i + 1))) (lv' := [(9, .int (nI (i + 1))), (8, .int (gaS (juF (dr (R 20) lm)) (i + 1))), (7, .int (gaS (diF (R 22) (dr (R 20) lm)) (i + 1))), (6, .int (mnS (dr (R 20) lm) (i + 1))), (5, .int (mgS (dr (R 20) lm) (i + 1))), (10, .int (juF (dr (R 20) lm) i)), (0, .ref (ad 0)), (1, .ref (ad 34)), (2, .ref (ad 35)), (3, .ref (ad 36)), (4, .ref (ad 37))]) hx hb dL_arePoints_234 hl rfl (nI_add i 1) (by decide) rfl (fun ls hl => ?_)
                          refine lv_goto (tgt := 19) hx hb dL_arePoints_237 (by decide) ?_
                          exact ih_19 (i + 1) u_71 _ _ _ (by omega) (by omega) hP hS (lv_sub hl [6, 7, 8, 9, 10, 4, 3, 2, 1, 0] rfl)
                        · refine lv_iload hx hb dL_arePoints_222 (lv_at hl 3 rfl) ?_
                          refine cx_ri (va_runS (As := [.int (juF (dr (R 20) lm) i)]) (rest := []) ⟨hx, hb, hml, hown, hts⟩ (c_L_amount l  (juF (dr (R 20) lm) i)) (va_cwS 1 hts gL_arePoints_L_amount rfl rfl rfl (by decide +kernel) ⟨Nat.le_of_ble_eq_true rfl, Nat.le_of_ble_eq_true rfl⟩) ⟨pc_blind, (fun U hU hW => ⟨rfl, trivial⟩)⟩ rfl rfl hl.1 rfl (lv_room (Nat.le_of_ble_eq_true rfl)) dL_arePoints_224 ⟨Nat.le_of_ble_eq_true rfl, Nat.le_of_ble_eq_true rfl⟩) hS hP (fun H locs hP hS => ?_)
                          refine lv_goto (tgt := 232) hx hb dL_arePoints_227 (by decide) ?_
                          refine cx_top (show (abI (juF (dr (R 20) lm) i)) = (gaS (juF (dr (R 20) lm)) (i + 1)) from ga_f (f := (juF (dr (R 20) lm))) c_219) ?_
                          refine lv_istore (lv' := [(8, .int (gaS (juF (dr (R 20) lm)) (i + 1))), (7, .int (gaS (diF (R 22) (dr (R 20) lm)) (i + 1))), (6, .int (mnS (dr (R 20) lm) (i + 1))), (5, .int (mgS (dr (R 20) lm) (i + 1))), (10, .int (juF (dr (R 20) lm) i)), (0, .ref (ad 0)), (1, .ref (ad 34)), (2, .ref (ad 35)), (3, .ref (ad 36)), (4, .ref (ad 37)), (9, .int (nI i))]) hx hb dL_arePoints_232 hl (by decide) rfl (fun ls hl => ?_)
                          refine lv_iinc (k := 10) (v := (nI (i + 1))) (lv' := [(9, .int (nI (i + 1))), (8, .int (gaS (juF (dr (R 20) lm)) (i + 1))), (7, .int (gaS (diF (R 22) (dr (R 20) lm)) (i + 1))), (6, .int (mnS (dr (R 20) lm) (i + 1))), (5, .int (mgS (dr (R 20) lm) (i + 1))), (10, .int (juF (dr (R 20) lm) i)), (0, .ref (ad 0)), (1, .ref (ad 34)), (2, .ref (ad 35)), (3, .ref (ad 36)), (4, .ref (ad 37))]) hx hb dL_arePoints_234 hl rfl (nI_add i 1) (by decide) rfl (fun ls hl => ?_)
                          refine lv_goto (tgt := 19) hx hb dL_arePoints_237 (by decide) ?_
                          exact ih_19 (i + 1) u_71 _ _ _ (by omega) (by omega) hP hS (lv_sub hl [6, 7, 8, 9, 10, 4, 3, 2, 1, 0] rfl)
                    · refine lv_aload hx hb dL_arePoints_162 (lv_at hl 6 rfl) ?_
                      refine lv_iload hx hb dL_arePoints_164 (lv_at hl 10 rfl) ?_
                      refine cx_iald (k := i) hx hb hK hP 37 1 pw_37 rfl (by omega) (by decide) dL_arePoints_166 ?_
                      refine cx_top (y := ((R 23) i)) rfl ?_
                      refine lv_goto (tgt := 172) hx hb dL_arePoints_167 (by decide) ?_
                      refine cx_top (show ((R 23) i) = (mnS (dr (R 20) lm) (i + 1)) from mn_f ht c_159) ?_
                      refine lv_istore (lv' := [(6, .int (mnS (dr (R 20) lm) (i + 1))), (5, .int (mgS (dr (R 20) lm) (i + 1))), (10, .int (juF (dr (R 20) lm) i)), (0, .ref (ad 0)), (1, .ref (ad 34)), (2, .ref (ad 35)), (3, .ref (ad 36)), (4, .ref (ad 37)), (7, .int (gaS (diF (R 22) (dr (R 20) lm)) i)), (8, .int (gaS (juF (dr (R 20) lm)) i)), (9, .int (nI i))]) hx hb dL_arePoints_172 hl (by decide) rfl (fun ls hl => ?_)
                      refine lv_aload_n hx hb dL_arePoints_174 rfl (lv_at hl 6 rfl) ?_
                      refine lv_iload hx hb dL_arePoints_175 (lv_at hl 10 rfl) ?_
                      refine cx_iald (k := i) hx hb hK hP 36 1 pw_36 rfl (by omega) (by decide) dL_arePoints_177 ?_
                      refine cx_top (y := ((R 22) i)) rfl ?_
                      refine lv_aload hx hb dL_arePoints_178 (lv_at hl 7 rfl) ?_
                      refine lv_iload hx hb dL_arePoints_180 (lv_at hl 10 rfl) ?_
                      refine cx_iald (k := i) hx hb hK hP 37 1 pw_37 rfl (by omega) (by decide) dL_arePoints_182 ?_
                      refine cx_top (y := ((R 23) i)) rfl ?_
                      refine lv_isub hx hb dL_arePoints_183 ?_
                      refine cx_top (show (((R 22) i) - ((R 23) i)) = (diF (R 22) (dr (R 20) lm) i) from by rw [ht]; rfl) ?_
                      refine cx_ri (va_runS (As := [.int (diF (R 22) (dr (R 20) lm) i)]) (rest := []) ⟨hx, hb, hml, hown, hts⟩ (c_L_amount l  (diF (R 22) (dr (R 20) lm) i)) (va_cwS 1 hts gL_arePoints_L_amount rfl rfl rfl (by decide +kernel) ⟨Nat.le_of_ble_eq_true rfl, Nat.le_of_ble_eq_true rfl⟩) ⟨pc_blind, (fun U hU hW => ⟨rfl, trivial⟩)⟩ rfl rfl hl.1 rfl (lv_room (Nat.le_of_ble_eq_true rfl)) dL_arePoints_184 ⟨Nat.le_of_ble_eq_true rfl, Nat.le_of_ble_eq_true rfl⟩) hS hP (fun H locs hP hS => ?_)
                      refine lv_iload hx hb dL_arePoints_187 (lv_at hl 8 rfl) ?_
                      refine lv_icmp_le (tgt := 208) hx hb dL_arePoints_189 (by decide) (fun c_189 => ?_) (fun c_189 => ?_)
                      · refine lv_iload hx hb dL_arePoints_208 (lv_at hl 8 rfl) ?_
                        refine cx_top (show (gaS (diF (R 22) (dr (R 20) lm)) i) = (gaS (diF (R 22) (dr (R 20) lm)) (i + 1)) from ga_t (f := (diF (R 22) (dr (R 20) lm))) c_189) ?_
                        refine lv_istore (lv' := [(7, .int (gaS (diF (R 22) (dr (R 20) lm)) (i + 1))), (6, .int (mnS (dr (R 20) lm) (i + 1))), (5, .int (mgS (dr (R 20) lm) (i + 1))), (10, .int (juF (dr (R 20) lm) i)), (0, .ref (ad 0)), (1, .ref (ad 34)), (2, .ref (ad 35)), (3, .ref (ad 36)), (4, .ref (ad 37)), (8, .int (gaS (juF (dr (R 20) lm)) i)), (9, .int (nI i))]) hx hb dL_arePoints_210 hl (by decide) rfl (fun ls hl => ?_)
                        refine lv_iload hx hb dL_arePoints_212 (lv_at hl 3 rfl) ?_
                        refine cx_ri (va_runS (As := [.int (juF (dr (R 20) lm) i)]) (rest := []) ⟨hx, hb, hml, hown, hts⟩ (c_L_amount l  (juF (dr (R 20) lm) i)) (va_cwS 1 hts gL_arePoints_L_amount rfl rfl rfl (by decide +kernel) ⟨Nat.le_of_ble_eq_true rfl, Nat.le_of_ble_eq_true rfl⟩) ⟨pc_blind, (fun U hU hW => ⟨rfl, trivial⟩)⟩ rfl rfl hl.1 rfl (lv_room (Nat.le_of_ble_eq_true rfl)) dL_arePoints_214 ⟨Nat.le_of_ble_eq_true rfl, Nat.le_of_ble_eq_true rfl⟩) hS hP (fun H locs hP hS => ?_)
                        refine lv_iload hx hb dL_arePoints_217 (lv_at hl 9 rfl) ?_
                        refine lv_icmp_le (tgt := 230) hx hb dL_arePoints_219 (by decide) (fun c_219 => ?_) (fun c_219 => ?_)
                        · refine lv_iload hx hb dL_arePoints_230 (lv_at hl 9 rfl) ?_
                          refine cx_top (show (gaS (juF (dr (R 20) lm)) i) = (gaS (juF (dr (R 20) lm)) (i + 1)) from ga_t (f := (juF (dr (R 20) lm))) c_219) ?_
                          refine lv_istore (lv' := [(8, .int (gaS (juF (dr (R 20) lm)) (i + 1))), (7, .int (gaS (diF (R 22) (dr (R 20) lm)) (i + 1))), (6, .int (mnS (dr (R 20) lm) (i + 1))), (5, .int (mgS (dr (R 20) lm) (i + 1))), (10, .int (juF (dr (R 20) lm) i)), (0, .ref (ad 0)), (1, .ref (ad 34)), (2, .ref (ad 35)), (3, .ref (ad 36)), (4, .ref (ad 37)), (9, .int (nI i))]) hx hb dL_arePoints_232 hl (by decide) rfl (fun ls hl => ?_)
                          refine lv_iinc (k := 10) (v := (nI (i + 1))) (lv' := [(9, .int (nI (i + 1))), (8, .int (gaS (juF (dr (R 20) lm)) (i + 1))), (7, .int (gaS (diF (R 22) (dr (R 20) lm)) (i + 1))), (6, .int (mnS (dr (R 20) lm) (i + 1))), (5, .int (mgS (dr (R 20) lm) (i + 1))), (10, .int (juF (dr (R 20) lm) i)), (0, .ref (ad 0)), (1, .ref (ad 34)), (2, .ref (ad 35)), (3, .ref (ad 36)), (4, .ref (ad 37))]) hx hb dL_arePoints_234 hl rfl (nI_add i 1) (by decide) rfl (fun ls hl => ?_)
                          refine lv_goto (tgt := 19) hx hb dL_arePoints_237 (by decide) ?_
                          exact ih_19 (i + 1) u_71 _ _ _ (by omega) (by omega) hP hS (lv_sub hl [6, 7, 8, 9, 10, 4, 3, 2, 1, 0] rfl)
                        · refine lv_iload hx hb dL_arePoints_222 (lv_at hl 3 rfl) ?_
                          refine cx_ri (va_runS (As := [.int (juF (dr (R 20) lm) i)]) (rest := []) ⟨hx, hb, hml, hown, hts⟩ (c_L_amount l  (juF (dr (R 20) lm) i)) (va_cwS 1 hts gL_arePoints_L_amount rfl rfl rfl (by decide +kernel) ⟨Nat.le_of_ble_eq_true rfl, Nat.le_of_ble_eq_true rfl⟩) ⟨pc_blind, (fun U hU hW => ⟨rfl, trivial⟩)⟩ rfl rfl hl.1 rfl (lv_room (Nat.le_of_ble_eq_true rfl)) dL_arePoints_224 ⟨Nat.le_of_ble_eq_true rfl, Nat.le_of_ble_eq_true rfl⟩) hS hP (fun H locs hP hS => ?_)
                          refine lv_goto (tgt := 232) hx hb dL_arePoints_227 (by decide) ?_
                          refine cx_top (show (abI (juF (dr (R 20) lm) i)) = (gaS (juF (dr (R 20) lm)) (i + 1)) from ga_f (f := (juF (dr (R 20) lm))) c_219) ?_
                          refine lv_istore (lv' := [(8, .int (gaS (juF (dr (R 20) lm)) (i + 1))), (7, .int (gaS (diF (R 22) (dr (R 20) lm)) (i + 1))), (6, .int (mnS (dr (R 20) lm) (i + 1))), (5, .int (mgS (dr (R 20) lm) (i + 1))), (10, .int (juF (dr (R 20) lm) i)), (0, .ref (ad 0)), (1, .ref (ad 34)), (2, .ref (ad 35)), (3, .ref (ad 36)), (4, .ref (ad 37)), (9, .int (nI i))]) hx hb dL_arePoints_232 hl (by decide) rfl (fun ls hl => ?_)
                          refine lv_iinc (k := 10) (v := (nI (i + 1))) (lv' := [(9, .int (nI (i + 1))), (8, .int (gaS (juF (dr (R 20) lm)) (i + 1))), (7, .int (gaS (diF (R 22) (dr (R 20) lm)) (i + 1))), (6, .int (mnS (dr (R 20) lm) (i + 1))), (5, .int (mgS (dr (R 20) lm) (i + 1))), (10, .int (juF (dr (R 20) lm) i)), (0, .ref (ad 0)), (1, .ref (ad 34)), (2, .ref (ad 35)), (3, .ref (ad 36)), (4, .ref (ad 37))]) hx hb dL_arePoints_234 hl rfl (nI_add i 1) (by decide) rfl (fun ls hl => ?_)
                          refine lv_goto (tgt := 19) hx hb dL_arePoints_237 (by decide) ?_
                          exact ih_19 (i + 1) u_71 _ _ _ (by omega) (by omega) hP hS (lv_sub hl [6, 7, 8, 9, 10, 4, 3, 2, 1, 0] rfl)
                      · refine lv_aload_n hx hb dL_arePoints_192 rfl (lv_at hl 6 rfl) ?_
                        refine lv_iload hx hb dL_arePoints_193 (lv_at hl 10 rfl) ?_
                        refine cx_iald (k := i) hx hb hK hP 36 1 pw_36 rfl (by omega) (by decide) dL_arePoints_195 ?_
                        refine cx_top (y := ((R 22) i)) rfl ?_
                        refine lv_aload hx hb dL_arePoints_196 (lv_at hl 7 rfl) ?_
                        refine lv_iload hx hb dL_arePoints_198 (lv_at hl 10 rfl) ?_
                        refine cx_iald (k := i) hx hb hK hP 37 1 pw_37 rfl (by omega) (by decide) dL_arePoints_200 ?_
                        refine cx_top (y := ((R 23) i)) rfl ?_
                        refine lv_isub hx hb dL_arePoints_201 ?_
                        refine cx_top (show (((R 22) i) - ((R 23) i)) = (diF (R 22) (dr (R 20) lm) i) from by rw [ht]; rfl) ?_
                        refine cx_ri (va_runS (As := [.int (diF (R 22) (dr (R 20) lm) i)]) (rest := []) ⟨hx, hb, hml, hown, hts⟩ (c_L_amount l  (diF (R 22) (dr (R 20) lm) i)) (va_cwS 1 hts gL_arePoints_L_amount rfl rfl rfl (by decide +kernel) ⟨Nat.le_of_ble_eq_true rfl, Nat.le_of_ble_eq_true rfl⟩) ⟨pc_blind, (fun U hU hW => ⟨rfl, trivial⟩)⟩ rfl rfl hl.1 rfl (lv_room (Nat.le_of_ble_eq_true rfl)) dL_arePoints_202 ⟨Nat.le_of_ble_eq_true rfl, Nat.le_of_ble_eq_true rfl⟩) hS hP (fun H locs hP hS => ?_)
                        refine lv_goto (tgt := 210) hx hb dL_arePoints_205 (by decide) ?_
                        refine cx_top (show (abI (diF (R 22) (dr (R 20) lm) i)) = (gaS (diF (R 22) (dr (R 20) lm)) (i + 1)) from ga_f (f := (diF (R 22) (dr (R 20) lm))) c_189) ?_
                        refine lv_istore (lv' := [(7, .int (gaS (diF (R 22) (dr (R 20) lm)) (i + 1))), (6, .int (mnS (dr (R 20) lm) (i + 1))), (5, .int (mgS (dr (R 20) lm) (i + 1))), (10, .int (juF (dr (R 20) lm) i)), (0, .ref (ad 0)), (1, .ref (ad 34)), (2, .ref (ad 35)), (3, .ref (ad 36)), (4, .ref (ad 37)), (8, .int (gaS (juF (dr (R 20) lm)) i)), (9, .int (nI i))]) hx hb dL_arePoints_210 hl (by decide) rfl (fun ls hl => ?_)
                        refine lv_iload hx hb dL_arePoints_212 (lv_at hl 3 rfl) ?_
                        refine cx_ri (va_runS (As := [.int (juF (dr (R 20) lm) i)]) (rest := []) ⟨hx, hb, hml, hown, hts⟩ (c_L_amount l  (juF (dr (R 20) lm) i)) (va_cwS 1 hts gL_arePoints_L_amount rfl rfl rfl (by decide +kernel) ⟨Nat.le_of_ble_eq_true rfl, Nat.le_of_ble_eq_true rfl⟩) ⟨pc_blind, (fun U hU hW => ⟨rfl, trivial⟩)⟩ rfl rfl hl.1 rfl (lv_room (Nat.le_of_ble_eq_true rfl)) dL_arePoints_214 ⟨Nat.le_of_ble_eq_true rfl, Nat.le_of_ble_eq_true rfl⟩) hS hP (fun H locs hP hS => ?_)
                        refine lv_iload hx hb dL_arePoints_217 (lv_at hl 9 rfl) ?_
                        refine lv_icmp_le (tgt := 230) hx hb dL_arePoints_219 (by decide) (fun c_219 => ?_) (fun c_219 => ?_)
                        · refine lv_iload hx hb dL_arePoints_230 (lv_at hl 9 rfl) ?_
                          refine cx_top (show (gaS (juF (dr (R 20) lm)) i) = (gaS (juF (dr (R 20) lm)) (i + 1)) from ga_t (f := (juF (dr (R 20) lm))) c_219) ?_
                          refine lv_istore (lv' := [(8, .int (gaS (juF (dr (R 20) lm)) (i + 1))), (7, .int (gaS (diF (R 22) (dr (R 20) lm)) (i + 1))), (6, .int (mnS (dr (R 20) lm) (i + 1))), (5, .int (mgS (dr (R 20) lm) (i + 1))), (10, .int (juF (dr (R 20) lm) i)), (0, .ref (ad 0)), (1, .ref (ad 34)), (2, .ref (ad 35)), (3, .ref (ad 36)), (4, .ref (ad 37)), (9, .int (nI i))]) hx hb dL_arePoints_232 hl (by decide) rfl (fun ls hl => ?_)
                          refine lv_iinc (k := 10) (v := (nI (i + 1))) (lv' := [(9, .int (nI (i + 1))), (8, .int (gaS (juF (dr (R 20) lm)) (i + 1))), (7, .int (gaS (diF (R 22) (dr (R 20) lm)) (i + 1))), (6, .int (mnS (dr (R 20) lm) (i + 1))), (5, .int (mgS (dr (R 20) lm) (i + 1))), (10, .int (juF (dr (R 20) lm) i)), (0, .ref (ad 0)), (1, .ref (ad 34)), (2, .ref (ad 35)), (3, .ref (ad 36)), (4, .ref (ad 37))]) hx hb dL_arePoints_234 hl rfl (nI_add i 1) (by decide) rfl (fun ls hl => ?_)
                          refine lv_goto (tgt := 19) hx hb dL_arePoints_237 (by decide) ?_
                          exact ih_19 (i + 1) u_71 _ _ _ (by omega) (by omega) hP hS (lv_sub hl [6, 7, 8, 9, 10, 4, 3, 2, 1, 0] rfl)
                        · refine lv_iload hx hb dL_arePoints_222 (lv_at hl 3 rfl) ?_
                          refine cx_ri (va_runS (As := [.int (juF (dr (R 20) lm) i)]) (rest := []) ⟨hx, hb, hml, hown, hts⟩ (c_L_amount l  (juF (dr (R 20) lm) i)) (va_cwS 1 hts gL_arePoints_L_amount rfl rfl rfl (by decide +kernel) ⟨Nat.le_of_ble_eq_true rfl, Nat.le_of_ble_eq_true rfl⟩) ⟨pc_blind, (fun U hU hW => ⟨rfl, trivial⟩)⟩ rfl rfl hl.1 rfl (lv_room (Nat.le_of_ble_eq_true rfl)) dL_arePoints_224 ⟨Nat.le_of_ble_eq_true rfl, Nat.le_of_ble_eq_true rfl⟩) hS hP (fun H locs hP hS => ?_)
                          refine lv_goto (tgt := 232) hx hb dL_arePoints_227 (by decide) ?_
                          refine cx_top (show (abI (juF (dr (R 20) lm) i)) = (gaS (juF (dr (R 20) lm)) (i + 1)) from ga_f (f := (juF (dr (R 20) lm))) c_219) ?_
                          refine lv_istore (lv' := [(8, .int (gaS (juF (dr (R 20) lm)) (i + 1))), (7, .int (gaS (diF (R 22) (dr (R 20) lm)) (i + 1))), (6, .int (mnS (dr (R 20) lm) (i + 1))), (5, .int (mgS (dr (R 20) lm) (i + 1))), (10, .int (juF (dr (R 20) lm) i)), (0, .ref (ad 0)), (1, .ref (ad 34)), (2, .ref (ad 35)), (3, .ref (ad 36)), (4, .ref (ad 37)), (9, .int (nI i))]) hx hb dL_arePoints_232 hl (by decide) rfl (fun ls hl => ?_)
                          refine lv_iinc (k := 10) (v := (nI (i + 1))) (lv' := [(9, .int (nI (i + 1))), (8, .int (gaS (juF (dr (R 20) lm)) (i + 1))), (7, .int (gaS (diF (R 22) (dr (R 20) lm)) (i + 1))), (6, .int (mnS (dr (R 20) lm) (i + 1))), (5, .int (mgS (dr (R 20) lm) (i + 1))), (10, .int (juF (dr (R 20) lm) i)), (0, .ref (ad 0)), (1, .ref (ad 34)), (2, .ref (ad 35)), (3, .ref (ad 36)), (4, .ref (ad 37))]) hx hb dL_arePoints_234 hl rfl (nI_add i 1) (by decide) rfl (fun ls hl => ?_)
                          refine lv_goto (tgt := 19) hx hb dL_arePoints_237 (by decide) ?_
                          exact ih_19 (i + 1) u_71 _ _ _ (by omega) (by omega) hP hS (lv_sub hl [6, 7, 8, 9, 10, 4, 3, 2, 1, 0] rfl)
                · exact absurd (pq2.trans (by rw [h0])) c_125
      · have c_32 : i = 7 := (nI_eq (a := i) (b := 7) (by omega) (by omega)).mp c_32
        refine lv_iconst (v := 0) hx hb dL_arePoints_35 (by decide) ?_
        refine lv_goto (tgt := 43) hx hb dL_arePoints_36 (by decide) ?_
        refine cx_iald (k := 0) hx hb hK hP 37 1 pw_37 rfl (by decide) (by decide) dL_arePoints_43 ?_
        refine cx_top (y := ((R 23) 0)) rfl ?_
        refine lv_aload hx hb dL_arePoints_44 (lv_at hl 4 rfl) ?_
        refine lv_iload hx hb dL_arePoints_46 (lv_at hl 9 rfl) ?_
        refine cx_iald (k := i) hx hb hK hP 37 1 pw_37 rfl (by omega) (by decide) dL_arePoints_48 ?_
        refine cx_top (y := ((R 23) i)) rfl ?_
        refine lv_isub hx hb dL_arePoints_49 ?_
        refine cx_top (show (((R 23) 0) - ((R 23) i)) = (juF (dr (R 20) lm) i) from ju_f ht c_32) ?_
        refine lv_istore (lv' := [(10, .int (juF (dr (R 20) lm) i)), (0, .ref (ad 0)), (1, .ref (ad 34)), (2, .ref (ad 35)), (3, .ref (ad 36)), (4, .ref (ad 37)), (5, .int (mgS (dr (R 20) lm) i)), (6, .int (mnS (dr (R 20) lm) i)), (7, .int (gaS (diF (R 22) (dr (R 20) lm)) i)), (8, .int (gaS (juF (dr (R 20) lm)) i)), (9, .int (nI i))]) hx hb dL_arePoints_50 hl (by decide) rfl (fun ls hl => ?_)
        refine lv_aload_n hx hb dL_arePoints_52 rfl (lv_at hl 1 rfl) ?_
        refine lv_iload hx hb dL_arePoints_53 (lv_at hl 10 rfl) ?_
        refine lv_iconst (v := 0) hx hb dL_arePoints_55 (by decide) ?_
        refine cx_ri (va_runV (As := [.int (nI i), .int 0]) (rest := []) ⟨hx, hb, hml, hown, hts⟩ (c_X3_trace0 l D T ad I (updR R 19 f) lm i (hm) (hI) (by omega)) (cwV 2 hts gL_arePoints_X3_trace rfl rfl rfl (by decide +kernel) ⟨Nat.le_of_ble_eq_true rfl, Nat.le_of_ble_eq_true rfl⟩) ⟨CR.blind, va_recv hK hP (ci := 3) (q0 := 0) rfl pw_0, CR.pre (pw_c hP) hK hN rfl⟩ rfl rfl hl.1 rfl (lv_room (Nat.le_of_ble_eq_true rfl)) dL_arePoints_56 ⟨Nat.le_of_ble_eq_true rfl, Nat.le_of_ble_eq_true rfl⟩) hS hP (fun H locs hP hS => ?_)
        refine cx_top (y := (trS (dr ((R 0)) lm) i 8)) rfl ?_
        refine lv_aload hx hb dL_arePoints_59 (lv_at hl 5 rfl) ?_
        refine lv_iload hx hb dL_arePoints_61 (lv_at hl 10 rfl) ?_
        refine cx_iald (k := i) hx hb hK hP 37 1 pw_37 rfl (by omega) (by decide) dL_arePoints_63 ?_
        refine cx_top (y := ((R 23) i)) rfl ?_
        refine lv_icmp_ne (tgt := 128) hx hb dL_arePoints_64 (by decide) (fun c_64 => ?_) (fun c_64 => ?_)
        · exact absurd (show trS (dr (R 0) lm) i 8 = R 23 i from by rw [h0, ht]) c_64
        · refine lv_aload_n hx hb dL_arePoints_67 rfl (lv_at hl 1 rfl) ?_
          refine lv_iload hx hb dL_arePoints_68 (lv_at hl 10 rfl) ?_
          refine lv_iconst (v := 1) hx hb dL_arePoints_70 (by decide) ?_
          refine cx_wi (va_runV (As := [.int (nI i), .int 1]) (rest := []) ⟨hx, hb, hml, hown, hts⟩ (c_X3_trace1 l D T ad I (updR R 19 f) _ lm i (AD_le hAD (by decide)) (hm) (hI) (by omega)) (cwV 2 hts gL_arePoints_X3_trace rfl rfl rfl (by decide +kernel) ⟨Nat.le_of_ble_eq_true rfl, Nat.le_of_ble_eq_true rfl⟩) ⟨CB.blind, va_recv hK hP (ci := 3) (q0 := 0) rfl pw_0, CB.pre (pw_c hP) hK hN rfl⟩ rfl rfl hl.1 rfl (lv_room (Nat.le_of_ble_eq_true rfl)) dL_arePoints_71 ⟨Nat.le_of_ble_eq_true rfl, Nat.le_of_ble_eq_true rfl⟩) hS (cA_sub (fun j hj => cA_in (by omega)) (fun q hq => cA_new (Nat.le_trans hS.1 hq))) (cA_sub (fun j hj => cA_in (by omega)) (fun q hq => cA_new (Nat.le_trans hS.1 hq))) (fun u_71 H locs hu_71 hP1 hkk hS => ?_)
          refine cx_top (y := (trS (dr ((R 0)) lm) i 8)) rfl ?_
          have hP := pw_join19 hAD hP hkk hP1
          have hP := updP hP
          refine lv_aload hx hb dL_arePoints_74 (lv_at hl 5 rfl) ?_
          refine lv_iload hx hb dL_arePoints_76 (lv_at hl 10 rfl) ?_
          refine cx_iald (k := i) hx hb hK hP 37 1 pw_37 rfl (by omega) (by decide) dL_arePoints_78 ?_
          refine cx_top (y := ((R 23) i)) rfl ?_
          refine lv_icmp_ne (tgt := 128) hx hb dL_arePoints_79 (by decide) (fun c_79 => ?_) (fun c_79 => ?_)
          · exact absurd (show trS (dr (R 0) lm) i 8 = R 23 i from by rw [h0, ht]) c_79
          · refine lv_aload_n hx hb dL_arePoints_82 rfl (lv_at hl 1 rfl) ?_
            refine lv_iload hx hb dL_arePoints_83 (lv_at hl 10 rfl) ?_
            refine lv_iconst (v := 0) hx hb dL_arePoints_85 (by decide) ?_
            refine cx_ri (va_runV (As := [.int (nI i), .int 0]) (rest := []) ⟨hx, hb, hml, hown, hts⟩ (c_X3_pointOf l D T ad I (updR R 19 u_71) lm i 0 (hm) (hI) (by omega) (by decide)) (cwV 2 hts gL_arePoints_X3_pointOf rfl rfl rfl (by decide +kernel) ⟨Nat.le_of_ble_eq_true rfl, Nat.le_of_ble_eq_true rfl⟩) ⟨CR.blind, va_recv hK hP (ci := 3) (q0 := 0) rfl pw_0, CR.pre (pw_c hP) hK hN rfl⟩ rfl rfl hl.1 rfl (lv_room (Nat.le_of_ble_eq_true rfl)) dL_arePoints_86 ⟨Nat.le_of_ble_eq_true rfl, Nat.le_of_ble_eq_true rfl⟩) hS hP (fun H locs hP hS => ?_)
            refine cx_top (y := (pnF ((R 1)) (dr ((R 0)) lm) i 0)) rfl ?_
            refine lv_aload_n hx hb dL_arePoints_89 rfl (lv_at hl 4 rfl) ?_
            refine lv_iload hx hb dL_arePoints_90 (lv_at hl 10 rfl) ?_
            refine cx_iald (k := i) hx hb hK hP 36 1 pw_36 rfl (by omega) (by decide) dL_arePoints_92 ?_
            refine cx_top (y := ((R 22) i)) rfl ?_
            refine lv_icmp_ne (tgt := 128) hx hb dL_arePoints_93 (by decide) (fun c_93 => ?_) (fun c_93 => ?_)
            · exact absurd (pq0.trans (congrFun h1 i)) c_93
            · refine lv_aload_n hx hb dL_arePoints_96 rfl (lv_at hl 1 rfl) ?_
              refine lv_iload hx hb dL_arePoints_97 (lv_at hl 10 rfl) ?_
              refine lv_iconst (v := 1) hx hb dL_arePoints_99 (by decide) ?_
              refine cx_ri (va_runV (As := [.int (nI i), .int 1]) (rest := []) ⟨hx, hb, hml, hown, hts⟩ (c_X3_pointOf l D T ad I (updR R 19 u_71) lm i 1 (hm) (hI) (by omega) (by decide)) (cwV 2 hts gL_arePoints_X3_pointOf rfl rfl rfl (by decide +kernel) ⟨Nat.le_of_ble_eq_true rfl, Nat.le_of_ble_eq_true rfl⟩) ⟨CR.blind, va_recv hK hP (ci := 3) (q0 := 0) rfl pw_0, CR.pre (pw_c hP) hK hN rfl⟩ rfl rfl hl.1 rfl (lv_room (Nat.le_of_ble_eq_true rfl)) dL_arePoints_100 ⟨Nat.le_of_ble_eq_true rfl, Nat.le_of_ble_eq_true rfl⟩) hS hP (fun H locs hP hS => ?_)
              refine cx_top (y := (pnF ((R 1)) (dr ((R 0)) lm) i 1)) rfl ?_
              refine lv_aload_n hx hb dL_arePoints_103 rfl (lv_at hl 4 rfl) ?_
              refine lv_iload hx hb dL_arePoints_104 (lv_at hl 10 rfl) ?_
              refine cx_iald (k := i) hx hb hK hP 36 1 pw_36 rfl (by omega) (by decide) dL_arePoints_106 ?_
              refine cx_top (y := ((R 22) i)) rfl ?_
              refine lv_aload hx hb dL_arePoints_107 (lv_at hl 5 rfl) ?_
              refine lv_iload hx hb dL_arePoints_109 (lv_at hl 10 rfl) ?_
              refine cx_iald (k := i) hx hb hK hP 37 1 pw_37 rfl (by omega) (by decide) dL_arePoints_111 ?_
              refine cx_top (y := ((R 23) i)) rfl ?_
              refine lv_isub hx hb dL_arePoints_112 ?_
              refine lv_icmp_ne (tgt := 128) hx hb dL_arePoints_113 (by decide) (fun c_113 => ?_) (fun c_113 => ?_)
              · exact absurd (pq1.trans (show diF (R 1) (dr (R 0) lm) i = R 22 i - R 23 i from by rw [h1, h0, ht]; rfl)) c_113
              · refine lv_aload_n hx hb dL_arePoints_116 rfl (lv_at hl 1 rfl) ?_
                refine lv_iload hx hb dL_arePoints_117 (lv_at hl 10 rfl) ?_
                refine lv_iconst (v := 2) hx hb dL_arePoints_119 (by decide) ?_
                refine cx_ri (va_runV (As := [.int (nI i), .int 2]) (rest := []) ⟨hx, hb, hml, hown, hts⟩ (c_X3_pointOf l D T ad I (updR R 19 u_71) lm i 2 (hm) (hI) (by omega) (by decide)) (cwV 2 hts gL_arePoints_X3_pointOf rfl rfl rfl (by decide +kernel) ⟨Nat.le_of_ble_eq_true rfl, Nat.le_of_ble_eq_true rfl⟩) ⟨CR.blind, va_recv hK hP (ci := 3) (q0 := 0) rfl pw_0, CR.pre (pw_c hP) hK hN rfl⟩ rfl rfl hl.1 rfl (lv_room (Nat.le_of_ble_eq_true rfl)) dL_arePoints_120 ⟨Nat.le_of_ble_eq_true rfl, Nat.le_of_ble_eq_true rfl⟩) hS hP (fun H locs hP hS => ?_)
                refine cx_top (y := (pnF ((R 1)) (dr ((R 0)) lm) i 2)) rfl ?_
                refine lv_iload hx hb dL_arePoints_123 (lv_at hl 0 rfl) ?_
                refine lv_icmp_eq (tgt := 130) hx hb dL_arePoints_125 (by decide) (fun c_125 => ?_) (fun c_125 => ?_)
                · refine lv_aload hx hb dL_arePoints_130 (lv_at hl 5 rfl) ?_
                  refine lv_iload hx hb dL_arePoints_132 (lv_at hl 10 rfl) ?_
                  refine cx_iald (k := i) hx hb hK hP 37 1 pw_37 rfl (by omega) (by decide) dL_arePoints_134 ?_
                  refine cx_top (y := ((R 23) i)) rfl ?_
                  refine lv_iload hx hb dL_arePoints_135 (lv_at hl 6 rfl) ?_
                  refine lv_icmp_le (tgt := 148) hx hb dL_arePoints_137 (by decide) (fun c_137 => ?_) (fun c_137 => ?_)
                  · refine lv_iload hx hb dL_arePoints_148 (lv_at hl 6 rfl) ?_
                    refine cx_top (show (mgS (dr (R 20) lm) i) = (mgS (dr (R 20) lm) (i + 1)) from mg_t ht c_137) ?_
                    refine lv_istore (lv' := [(5, .int (mgS (dr (R 20) lm) (i + 1))), (10, .int (juF (dr (R 20) lm) i)), (0, .ref (ad 0)), (1, .ref (ad 34)), (2, .ref (ad 35)), (3, .ref (ad 36)), (4, .ref (ad 37)), (6, .int (mnS (dr (R 20) lm) i)), (7, .int (gaS (diF (R 22) (dr (R 20) lm)) i)), (8, .int (gaS (juF (dr (R 20) lm)) i)), (9, .int (nI i))]) hx hb dL_arePoints_150 hl (by decide) rfl (fun ls hl => ?_)
                    refine lv_aload hx hb dL_arePoints_152 (lv_at hl 6 rfl) ?_
                    refine lv_iload hx hb dL_arePoints_154 (lv_at hl 10 rfl) ?_
                    refine cx_iald (k := i) hx hb hK hP 37 1 pw_37 rfl (by omega) (by decide) dL_arePoints_156 ?_
                    refine cx_top (y := ((R 23) i)) rfl ?_
                    refine lv_iload hx hb dL_arePoints_157 (lv_at hl 7 rfl) ?_
                    refine lv_icmp_ge (tgt := 170) hx hb dL_arePoints_159 (by decide) (fun c_159 => ?_) (fun c_159 => ?_)
                    · refine lv_iload hx hb dL_arePoints_170 (lv_at hl 7 rfl) ?_
                      refine cx_top (show (mnS (dr (R 20) lm) i) = (mnS (dr (R 20) lm) (i + 1)) from mn_t ht c_159) ?_
                      refine lv_istore (lv' := [(6, .int (mnS (dr (R 20) lm) (i + 1))), (5, .int (mgS (dr (R 20) lm) (i + 1))), (10, .int (juF (dr (R 20) lm) i)), (0, .ref (ad 0)), (1, .ref (ad 34)), (2, .ref (ad 35)), (3, .ref (ad 36)), (4, .ref (ad 37)), (7, .int (gaS (diF (R 22) (dr (R 20) lm)) i)), (8, .int (gaS (juF (dr (R 20) lm)) i)), (9, .int (nI i))]) hx hb dL_arePoints_172 hl (by decide) rfl (fun ls hl => ?_)
                      refine lv_aload_n hx hb dL_arePoints_174 rfl (lv_at hl 6 rfl) ?_
                      refine lv_iload hx hb dL_arePoints_175 (lv_at hl 10 rfl) ?_
                      refine cx_iald (k := i) hx hb hK hP 36 1 pw_36 rfl (by omega) (by decide) dL_arePoints_177 ?_
                      refine cx_top (y := ((R 22) i)) rfl ?_
                      refine lv_aload hx hb dL_arePoints_178 (lv_at hl 7 rfl) ?_
                      refine lv_iload hx hb dL_arePoints_180 (lv_at hl 10 rfl) ?_
                      refine cx_iald (k := i) hx hb hK hP 37 1 pw_37 rfl (by omega) (by decide) dL_arePoints_182 ?_
                      refine cx_top (y := ((R 23) i)) rfl ?_
                      refine lv_isub hx hb dL_arePoints_183 ?_
                      refine cx_top (show (((R 22) i) - ((R 23) i)) = (diF (R 22) (dr (R 20) lm) i) from by rw [ht]; rfl) ?_
                      refine cx_ri (va_runS (As := [.int (diF (R 22) (dr (R 20) lm) i)]) (rest := []) ⟨hx, hb, hml, hown, hts⟩ (c_L_amount l  (diF (R 22) (dr (R 20) lm) i)) (va_cwS 1 hts gL_arePoints_L_amount rfl rfl rfl (by decide +kernel) ⟨Nat.le_of_ble_eq_true rfl, Nat.le_of_ble_eq_true rfl⟩) ⟨pc_blind, (fun U hU hW => ⟨rfl, trivial⟩)⟩ rfl rfl hl.1 rfl (lv_room (Nat.le_of_ble_eq_true rfl)) dL_arePoints_184 ⟨Nat.le_of_ble_eq_true rfl, Nat.le_of_ble_eq_true rfl⟩) hS hP (fun H locs hP hS => ?_)
                      refine lv_iload hx hb dL_arePoints_187 (lv_at hl 8 rfl) ?_
                      refine lv_icmp_le (tgt := 208) hx hb dL_arePoints_189 (by decide) (fun c_189 => ?_) (fun c_189 => ?_)
                      · refine lv_iload hx hb dL_arePoints_208 (lv_at hl 8 rfl) ?_
                        refine cx_top (show (gaS (diF (R 22) (dr (R 20) lm)) i) = (gaS (diF (R 22) (dr (R 20) lm)) (i + 1)) from ga_t (f := (diF (R 22) (dr (R 20) lm))) c_189) ?_
                        refine lv_istore (lv' := [(7, .int (gaS (diF (R 22) (dr (R 20) lm)) (i + 1))), (6, .int (mnS (dr (R 20) lm) (i + 1))), (5, .int (mgS (dr (R 20) lm) (i + 1))), (10, .int (juF (dr (R 20) lm) i)), (0, .ref (ad 0)), (1, .ref (ad 34)), (2, .ref (ad 35)), (3, .ref (ad 36)), (4, .ref (ad 37)), (8, .int (gaS (juF (dr (R 20) lm)) i)), (9, .int (nI i))]) hx hb dL_arePoints_210 hl (by decide) rfl (fun ls hl => ?_)
                        refine lv_iload hx hb dL_arePoints_212 (lv_at hl 3 rfl) ?_
                        refine cx_ri (va_runS (As := [.int (juF (dr (R 20) lm) i)]) (rest := []) ⟨hx, hb, hml, hown, hts⟩ (c_L_amount l  (juF (dr (R 20) lm) i)) (va_cwS 1 hts gL_arePoints_L_amount rfl rfl rfl (by decide +kernel) ⟨Nat.le_of_ble_eq_true rfl, Nat.le_of_ble_eq_true rfl⟩) ⟨pc_blind, (fun U hU hW => ⟨rfl, trivial⟩)⟩ rfl rfl hl.1 rfl (lv_room (Nat.le_of_ble_eq_true rfl)) dL_arePoints_214 ⟨Nat.le_of_ble_eq_true rfl, Nat.le_of_ble_eq_true rfl⟩) hS hP (fun H locs hP hS => ?_)
                        refine lv_iload hx hb dL_arePoints_217 (lv_at hl 9 rfl) ?_
                        refine lv_icmp_le (tgt := 230) hx hb dL_arePoints_219 (by decide) (fun c_219 => ?_) (fun c_219 => ?_)
                        · refine lv_iload hx hb dL_arePoints_230 (lv_at hl 9 rfl) ?_
                          refine cx_top (show (gaS (juF (dr (R 20) lm)) i) = (gaS (juF (dr (R 20) lm)) (i + 1)) from ga_t (f := (juF (dr (R 20) lm))) c_219) ?_
                          refine lv_istore (lv' := [(8, .int (gaS (juF (dr (R 20) lm)) (i + 1))), (7, .int (gaS (diF (R 22) (dr (R 20) lm)) (i + 1))), (6, .int (mnS (dr (R 20) lm) (i + 1))), (5, .int (mgS (dr (R 20) lm) (i + 1))), (10, .int (juF (dr (R 20) lm) i)), (0, .ref (ad 0)), (1, .ref (ad 34)), (2, .ref (ad 35)), (3, .ref (ad 36)), (4, .ref (ad 37)), (9, .int (nI i))]) hx hb dL_arePoints_232 hl (by decide) rfl (fun ls hl => ?_)
                          refine lv_iinc (k := 10) (v := (nI (i + 1))) (lv' := [(9, .int (nI (i + 1))), (8, .int (gaS (juF (dr (R 20) lm)) (i + 1))), (7, .int (gaS (diF (R 22) (dr (R 20) lm)) (i + 1))), (6, .int (mnS (dr (R 20) lm) (i + 1))), (5, .int (mgS (dr (R 20) lm) (i + 1))), (10, .int (juF (dr (R 20) lm) i)), (0, .ref (ad 0)), (1, .ref (ad 34)), (2, .ref (ad 35)), (3, .ref (ad 36)), (4, .ref (ad 37))]) hx hb dL_arePoints_234 hl rfl (nI_add i 1) (by decide) rfl (fun ls hl => ?_)
                          refine lv_goto (tgt := 19) hx hb dL_arePoints_237 (by decide) ?_
                          exact ih_19 (i + 1) u_71 _ _ _ (by omega) (by omega) hP hS (lv_sub hl [6, 7, 8, 9, 10, 4, 3, 2, 1, 0] rfl)
                        · refine lv_iload hx hb dL_arePoints_222 (lv_at hl 3 rfl) ?_
                          refine cx_ri (va_runS (As := [.int (juF (dr (R 20) lm) i)]) (rest := []) ⟨hx, hb, hml, hown, hts⟩ (c_L_amount l  (juF (dr (R 20) lm) i)) (va_cwS 1 hts gL_arePoints_L_amount rfl rfl rfl (by decide +kernel) ⟨Nat.le_of_ble_eq_true rfl, Nat.le_of_ble_eq_true rfl⟩) ⟨pc_blind, (fun U hU hW => ⟨rfl, trivial⟩)⟩ rfl rfl hl.1 rfl (lv_room (Nat.le_of_ble_eq_true rfl)) dL_arePoints_224 ⟨Nat.le_of_ble_eq_true rfl, Nat.le_of_ble_eq_true rfl⟩) hS hP (fun H locs hP hS => ?_)
                          refine lv_goto (tgt := 232) hx hb dL_arePoints_227 (by decide) ?_
                          refine cx_top (show (abI (juF (dr (R 20) lm) i)) = (gaS (juF (dr (R 20) lm)) (i + 1)) from ga_f (f := (juF (dr (R 20) lm))) c_219) ?_
                          refine lv_istore (lv' := [(8, .int (gaS (juF (dr (R 20) lm)) (i + 1))), (7, .int (gaS (diF (R 22) (dr (R 20) lm)) (i + 1))), (6, .int (mnS (dr (R 20) lm) (i + 1))), (5, .int (mgS (dr (R 20) lm) (i + 1))), (10, .int (juF (dr (R 20) lm) i)), (0, .ref (ad 0)), (1, .ref (ad 34)), (2, .ref (ad 35)), (3, .ref (ad 36)), (4, .ref (ad 37)), (9, .int (nI i))]) hx hb dL_arePoints_232 hl (by decide) rfl (fun ls hl => ?_)
                          refine lv_iinc (k := 10) (v := (nI (i + 1))) (lv' := [(9, .int (nI (i + 1))), (8, .int (gaS (juF (dr (R 20) lm)) (i + 1))), (7, .int (gaS (diF (R 22) (dr (R 20) lm)) (i + 1))), (6, .int (mnS (dr (R 20) lm) (i + 1))), (5, .int (mgS (dr (R 20) lm) (i + 1))), (10, .int (juF (dr (R 20) lm) i)), (0, .ref (ad 0)), (1, .ref (ad 34)), (2, .ref (ad 35)), (3, .ref (ad 36)), (4, .ref (ad 37))]) hx hb dL_arePoints_234 hl rfl (nI_add i 1) (by decide) rfl (fun ls hl => ?_)
                          refine lv_goto (tgt := 19) hx hb dL_arePoints_237 (by decide) ?_
                          exact ih_19 (i + 1) u_71 _ _ _ (by omega) (by omega) hP hS (lv_sub hl [6, 7, 8, 9, 10, 4, 3, 2, 1, 0] rfl)
                      · refine lv_aload_n hx hb dL_arePoints_192 rfl (lv_at hl 6 rfl) ?_
                        refine lv_iload hx hb dL_arePoints_193 (lv_at hl 10 rfl) ?_
                        refine cx_iald (k := i) hx hb hK hP 36 1 pw_36 rfl (by omega) (by decide) dL_arePoints_195 ?_
                        refine cx_top (y := ((R 22) i)) rfl ?_
                        refine lv_aload hx hb dL_arePoints_196 (lv_at hl 7 rfl) ?_
                        refine lv_iload hx hb dL_arePoints_198 (lv_at hl 10 rfl) ?_
                        refine cx_iald (k := i) hx hb hK hP 37 1 pw_37 rfl (by omega) (by decide) dL_arePoints_200 ?_
                        refine cx_top (y := ((R 23) i)) rfl ?_
                        refine lv_isub hx hb dL_arePoints_201 ?_
                        refine cx_top (show (((R 22) i) - ((R 23) i)) = (diF (R 22) (dr (R 20) lm) i) from by rw [ht]; rfl) ?_
                        refine cx_ri (va_runS (As := [.int (diF (R 22) (dr (R 20) lm) i)]) (rest := []) ⟨hx, hb, hml, hown, hts⟩ (c_L_amount l  (diF (R 22) (dr (R 20) lm) i)) (va_cwS 1 hts gL_arePoints_L_amount rfl rfl rfl (by decide +kernel) ⟨Nat.le_of_ble_eq_true rfl, Nat.le_of_ble_eq_true rfl⟩) ⟨pc_blind, (fun U hU hW => ⟨rfl, trivial⟩)⟩ rfl rfl hl.1 rfl (lv_room (Nat.le_of_ble_eq_true rfl)) dL_arePoints_202 ⟨Nat.le_of_ble_eq_true rfl, Nat.le_of_ble_eq_true rfl⟩) hS hP (fun H locs hP hS => ?_)
                        refine lv_goto (tgt := 210) hx hb dL_arePoints_205 (by decide) ?_
                        refine cx_top (show (abI (diF (R 22) (dr (R 20) lm) i)) = (gaS (diF (R 22) (dr (R 20) lm)) (i + 1)) from ga_f (f := (diF (R 22) (dr (R 20) lm))) c_189) ?_
                        refine lv_istore (lv' := [(7, .int (gaS (diF (R 22) (dr (R 20) lm)) (i + 1))), (6, .int (mnS (dr (R 20) lm) (i + 1))), (5, .int (mgS (dr (R 20) lm) (i + 1))), (10, .int (juF (dr (R 20) lm) i)), (0, .ref (ad 0)), (1, .ref (ad 34)), (2, .ref (ad 35)), (3, .ref (ad 36)), (4, .ref (ad 37)), (8, .int (gaS (juF (dr (R 20) lm)) i)), (9, .int (nI i))]) hx hb dL_arePoints_210 hl (by decide) rfl (fun ls hl => ?_)
                        refine lv_iload hx hb dL_arePoints_212 (lv_at hl 3 rfl) ?_
                        refine cx_ri (va_runS (As := [.int (juF (dr (R 20) lm) i)]) (rest := []) ⟨hx, hb, hml, hown, hts⟩ (c_L_amount l  (juF (dr (R 20) lm) i)) (va_cwS 1 hts gL_arePoints_L_amount rfl rfl rfl (by decide +kernel) ⟨Nat.le_of_ble_eq_true rfl, Nat.le_of_ble_eq_true rfl⟩) ⟨pc_blind, (fun U hU hW => ⟨rfl, trivial⟩)⟩ rfl rfl hl.1 rfl (lv_room (Nat.le_of_ble_eq_true rfl)) dL_arePoints_214 ⟨Nat.le_of_ble_eq_true rfl, Nat.le_of_ble_eq_true rfl⟩) hS hP (fun H locs hP hS => ?_)
                        refine lv_iload hx hb dL_arePoints_217 (lv_at hl 9 rfl) ?_
                        refine lv_icmp_le (tgt := 230) hx hb dL_arePoints_219 (by decide) (fun c_219 => ?_) (fun c_219 => ?_)
                        · refine lv_iload hx hb dL_arePoints_230 (lv_at hl 9 rfl) ?_
                          refine cx_top (show (gaS (juF (dr (R 20) lm)) i) = (gaS (juF (dr (R 20) lm)) (i + 1)) from ga_t (f := (juF (dr (R 20) lm))) c_219) ?_
                          refine lv_istore (lv' := [(8, .int (gaS (juF (dr (R 20) lm)) (i + 1))), (7, .int (gaS (diF (R 22) (dr (R 20) lm)) (i + 1))), (6, .int (mnS (dr (R 20) lm) (i + 1))), (5, .int (mgS (dr (R 20) lm) (i + 1))), (10, .int (juF (dr (R 20) lm) i)), (0, .ref (ad 0)), (1, .ref (ad 34)), (2, .ref (ad 35)), (3, .ref (ad 36)), (4, .ref (ad 37)), (9, .int (nI i))]) hx hb dL_arePoints_232 hl (by decide) rfl (fun ls hl => ?_)
                          refine lv_iinc (k := 10) (v := (nI (i + 1))) (lv' := [(9, .int (nI (i + 1))), (8, .int (gaS (juF (dr (R 20) lm)) (i + 1))), (7, .int (gaS (diF (R 22) (dr (R 20) lm)) (i + 1))), (6, .int (mnS (dr (R 20) lm) (i + 1))), (5, .int (mgS (dr (R 20) lm) (i + 1))), (10, .int (juF (dr (R 20) lm) i)), (0, .ref (ad 0)), (1, .ref (ad 34)), (2, .ref (ad 35)), (3, .ref (ad 36)), (4, .ref (ad 37))]) hx hb dL_arePoints_234 hl rfl (nI_add i 1) (by decide) rfl (fun ls hl => ?_)
                          refine lv_goto (tgt := 19) hx hb dL_arePoints_237 (by decide) ?_
                          exact ih_19 (i + 1) u_71 _ _ _ (by omega) (by omega) hP hS (lv_sub hl [6, 7, 8, 9, 10, 4, 3, 2, 1, 0] rfl)
                        · refine lv_iload hx hb dL_arePoints_222 (lv_at hl 3 rfl) ?_
                          refine cx_ri (va_runS (As := [.int (juF (dr (R 20) lm) i)]) (rest := []) ⟨hx, hb, hml, hown, hts⟩ (c_L_amount l  (juF (dr (R 20) lm) i)) (va_cwS 1 hts gL_arePoints_L_amount rfl rfl rfl (by decide +kernel) ⟨Nat.le_of_ble_eq_true rfl, Nat.le_of_ble_eq_true rfl⟩) ⟨pc_blind, (fun U hU hW => ⟨rfl, trivial⟩)⟩ rfl rfl hl.1 rfl (lv_room (Nat.le_of_ble_eq_true rfl)) dL_arePoints_224 ⟨Nat.le_of_ble_eq_true rfl, Nat.le_of_ble_eq_true rfl⟩) hS hP (fun H locs hP hS => ?_)
                          refine lv_goto (tgt := 232) hx hb dL_arePoints_227 (by decide) ?_
                          refine cx_top (show (abI (juF (dr (R 20) lm) i)) = (gaS (juF (dr (R 20) lm)) (i + 1)) from ga_f (f := (juF (dr (R 20) lm))) c_219) ?_
                          refine lv_istore (lv' := [(8, .int (gaS (juF (dr (R 20) lm)) (i + 1))), (7, .int (gaS (diF (R 22) (dr (R 20) lm)) (i + 1))), (6, .int (mnS (dr (R 20) lm) (i + 1))), (5, .int (mgS (dr (R 20) lm) (i + 1))), (10, .int (juF (dr (R 20) lm) i)), (0, .ref (ad 0)), (1, .ref (ad 34)), (2, .ref (ad 35)), (3, .ref (ad 36)), (4, .ref (ad 37)), (9, .int (nI i))]) hx hb dL_arePoints_232 hl (by decide) rfl (fun ls hl => ?_)
                          refine lv_iinc (k := 10) (v := (nI (i + 1))) (lv' := [(9, .int (nI (i + 1))), (8, .int (gaS (juF (dr (R 20) lm)) (i + 1))), (7, .int (gaS (diF (R 22) (dr (R 20) lm)) (i + 1))), (6, .int (mnS (dr (R 20) lm) (i + 1))), (5, .int (mgS (dr (R 20) lm) (i + 1))), (10, .int (juF (dr (R 20) lm) i)), (0, .ref (ad 0)), (1, .ref (ad 34)), (2, .ref (ad 35)), (3, .ref (ad 36)), (4, .ref (ad 37))]) hx hb dL_arePoints_234 hl rfl (nI_add i 1) (by decide) rfl (fun ls hl => ?_)
                          refine lv_goto (tgt := 19) hx hb dL_arePoints_237 (by decide) ?_
                          exact ih_19 (i + 1) u_71 _ _ _ (by omega) (by omega) hP hS (lv_sub hl [6, 7, 8, 9, 10, 4, 3, 2, 1, 0] rfl)
                    · refine lv_aload hx hb dL_arePoints_162 (lv_at hl 6 rfl) ?_
                      refine lv_iload hx hb dL_arePoints_164 (lv_at hl 10 rfl) ?_
                      refine cx_iald (k := i) hx hb hK hP 37 1 pw_37 rfl (by omega) (by decide) dL_arePoints_166 ?_
                      refine cx_top (y := ((R 23) i)) rfl ?_
                      refine lv_goto (tgt := 172) hx hb dL_arePoints_167 (by decide) ?_
                      refine cx_top (show ((R 23) i) = (mnS (dr (R 20) lm) (i + 1)) from mn_f ht c_159) ?_
                      refine lv_istore (lv' := [(6, .int (mnS (dr (R 20) lm) (i + 1))), (5, .int (mgS (dr (R 20) lm) (i + 1))), (10, .int (juF (dr (R 20) lm) i)), (0, .ref (ad 0)), (1, .ref (ad 34)), (2, .ref (ad 35)), (3, .ref (ad 36)), (4, .ref (ad 37)), (7, .int (gaS (diF (R 22) (dr (R 20) lm)) i)), (8, .int (gaS (juF (dr (R 20) lm)) i)), (9, .int (nI i))]) hx hb dL_arePoints_172 hl (by decide) rfl (fun ls hl => ?_)
                      refine lv_aload_n hx hb dL_arePoints_174 rfl (lv_at hl 6 rfl) ?_
                      refine lv_iload hx hb dL_arePoints_175 (lv_at hl 10 rfl) ?_
                      refine cx_iald (k := i) hx hb hK hP 36 1 pw_36 rfl (by omega) (by decide) dL_arePoints_177 ?_
                      refine cx_top (y := ((R 22) i)) rfl ?_
                      refine lv_aload hx hb dL_arePoints_178 (lv_at hl 7 rfl) ?_
                      refine lv_iload hx hb dL_arePoints_180 (lv_at hl 10 rfl) ?_
                      refine cx_iald (k := i) hx hb hK hP 37 1 pw_37 rfl (by omega) (by decide) dL_arePoints_182 ?_
                      refine cx_top (y := ((R 23) i)) rfl ?_
                      refine lv_isub hx hb dL_arePoints_183 ?_
                      refine cx_top (show (((R 22) i) - ((R 23) i)) = (diF (R 22) (dr (R 20) lm) i) from by rw [ht]; rfl) ?_
                      refine cx_ri (va_runS (As := [.int (diF (R 22) (dr (R 20) lm) i)]) (rest := []) ⟨hx, hb, hml, hown, hts⟩ (c_L_amount l  (diF (R 22) (dr (R 20) lm) i)) (va_cwS 1 hts gL_arePoints_L_amount rfl rfl rfl (by decide +kernel) ⟨Nat.le_of_ble_eq_true rfl, Nat.le_of_ble_eq_true rfl⟩) ⟨pc_blind, (fun U hU hW => ⟨rfl, trivial⟩)⟩ rfl rfl hl.1 rfl (lv_room (Nat.le_of_ble_eq_true rfl)) dL_arePoints_184 ⟨Nat.le_of_ble_eq_true rfl, Nat.le_of_ble_eq_true rfl⟩) hS hP (fun H locs hP hS => ?_)
                      refine lv_iload hx hb dL_arePoints_187 (lv_at hl 8 rfl) ?_
                      refine lv_icmp_le (tgt := 208) hx hb dL_arePoints_189 (by decide) (fun c_189 => ?_) (fun c_189 => ?_)
                      · refine lv_iload hx hb dL_arePoints_208 (lv_at hl 8 rfl) ?_
                        refine cx_top (show (gaS (diF (R 22) (dr (R 20) lm)) i) = (gaS (diF (R 22) (dr (R 20) lm)) (i + 1)) from ga_t (f := (diF (R 22) (dr (R 20) lm))) c_189) ?_
                        refine lv_istore (lv' := [(7, .int (gaS (diF (R 22) (dr (R 20) lm)) (i + 1))), (6, .int (mnS (dr (R 20) lm) (i + 1))), (5, .int (mgS (dr (R 20) lm) (i + 1))), (10, .int (juF (dr (R 20) lm) i)), (0, .ref (ad 0)), (1, .ref (ad 34)), (2, .ref (ad 35)), (3, .ref (ad 36)), (4, .ref (ad 37)), (8, .int (gaS (juF (dr (R 20) lm)) i)), (9, .int (nI i))]) hx hb dL_arePoints_210 hl (by decide) rfl (fun ls hl => ?_)
                        refine lv_iload hx hb dL_arePoints_212 (lv_at hl 3 rfl) ?_
                        refine cx_ri (va_runS (As := [.int (juF (dr (R 20) lm) i)]) (rest := []) ⟨hx, hb, hml, hown, hts⟩ (c_L_amount l  (juF (dr (R 20) lm) i)) (va_cwS 1 hts gL_arePoints_L_amount rfl rfl rfl (by decide +kernel) ⟨Nat.le_of_ble_eq_true rfl, Nat.le_of_ble_eq_true rfl⟩) ⟨pc_blind, (fun U hU hW => ⟨rfl, trivial⟩)⟩ rfl rfl hl.1 rfl (lv_room (Nat.le_of_ble_eq_true rfl)) dL_arePoints_214 ⟨Nat.le_of_ble_eq_true rfl, Nat.le_of_ble_eq_true rfl⟩) hS hP (fun H locs hP hS => ?_)
                        refine lv_iload hx hb dL_arePoints_217 (lv_at hl 9 rfl) ?_
                        refine lv_icmp_le (tgt := 230) hx hb dL_arePoints_219 (by decide) (fun c_219 => ?_) (fun c_219 => ?_)
                        · refine lv_iload hx hb dL_arePoints_230 (lv_at hl 9 rfl) ?_
                          refine cx_top (show (gaS (juF (dr (R 20) lm)) i) = (gaS (juF (dr (R 20) lm)) (i + 1)) from ga_t (f := (juF (dr (R 20) lm))) c_219) ?_
                          refine lv_istore (lv' := [(8, .int (gaS (juF (dr (R 20) lm)) (i + 1))), (7, .int (gaS (diF (R 22) (dr (R 20) lm)) (i + 1))), (6, .int (mnS (dr (R 20) lm) (i + 1))), (5, .int (mgS (dr (R 20) lm) (i + 1))), (10, .int (juF (dr (R 20) lm) i)), (0, .ref (ad 0)), (1, .ref (ad 34)), (2, .ref (ad 35)), (3, .ref (ad 36)), (4, .ref (ad 37)), (9, .int (nI i))]) hx hb dL_arePoints_232 hl (by decide) rfl (fun ls hl => ?_)
                          refine lv_iinc (k := 10) (v := (nI (i + 1))) (lv' := [(9, .int (nI (i + 1))), (8, .int (gaS (juF (dr (R 20) lm)) (i + 1))), (7, .int (gaS (diF (R 22) (dr (R 20) lm)) (i + 1))), (6, .int (mnS (dr (R 20) lm) (i + 1))), (5, .int (mgS (dr (R 20) lm) (i + 1))), (10, .int (juF (dr (R 20) lm) i)), (0, .ref (ad 0)), (1, .ref (ad 34)), (2, .ref (ad 35)), (3, .ref (ad 36)), (4, .ref (ad 37))]) hx hb dL_arePoints_234 hl rfl (nI_add i 1) (by decide) rfl (fun ls hl => ?_)
                          refine lv_goto (tgt := 19) hx hb dL_arePoints_237 (by decide) ?_
                          exact ih_19 (i + 1) u_71 _ _ _ (by omega) (by omega) hP hS (lv_sub hl [6, 7, 8, 9, 10, 4, 3, 2, 1, 0] rfl)
                        · refine lv_iload hx hb dL_arePoints_222 (lv_at hl 3 rfl) ?_
                          refine cx_ri (va_runS (As := [.int (juF (dr (R 20) lm) i)]) (rest := []) ⟨hx, hb, hml, hown, hts⟩ (c_L_amount l  (juF (dr (R 20) lm) i)) (va_cwS 1 hts gL_arePoints_L_amount rfl rfl rfl (by decide +kernel) ⟨Nat.le_of_ble_eq_true rfl, Nat.le_of_ble_eq_true rfl⟩) ⟨pc_blind, (fun U hU hW => ⟨rfl, trivial⟩)⟩ rfl rfl hl.1 rfl (lv_room (Nat.le_of_ble_eq_true rfl)) dL_arePoints_224 ⟨Nat.le_of_ble_eq_true rfl, Nat.le_of_ble_eq_true rfl⟩) hS hP (fun H locs hP hS => ?_)
                          refine lv_goto (tgt := 232) hx hb dL_arePoints_227 (by decide) ?_
                          refine cx_top (show (abI (juF (dr (R 20) lm) i)) = (gaS (juF (dr (R 20) lm)) (i + 1)) from ga_f (f := (juF (dr (R 20) lm))) c_219) ?_
                          refine lv_istore (lv' := [(8, .int (gaS (juF (dr (R 20) lm)) (i + 1))), (7, .int (gaS (diF (R 22) (dr (R 20) lm)) (i + 1))), (6, .int (mnS (dr (R 20) lm) (i + 1))), (5, .int (mgS (dr (R 20) lm) (i + 1))), (10, .int (juF (dr (R 20) lm) i)), (0, .ref (ad 0)), (1, .ref (ad 34)), (2, .ref (ad 35)), (3, .ref (ad 36)), (4, .ref (ad 37)), (9, .int (nI i))]) hx hb dL_arePoints_232 hl (by decide) rfl (fun ls hl => ?_)
                          refine lv_iinc (k := 10) (v := (nI (i + 1))) (lv' := [(9, .int (nI (i + 1))), (8, .int (gaS (juF (dr (R 20) lm)) (i + 1))), (7, .int (gaS (diF (R 22) (dr (R 20) lm)) (i + 1))), (6, .int (mnS (dr (R 20) lm) (i + 1))), (5, .int (mgS (dr (R 20) lm) (i + 1))), (10, .int (juF (dr (R 20) lm) i)), (0, .ref (ad 0)), (1, .ref (ad 34)), (2, .ref (ad 35)), (3, .ref (ad 36)), (4, .ref (ad 37))]) hx hb dL_arePoints_234 hl rfl (nI_add i 1) (by decide) rfl (fun ls hl => ?_)
                          refine lv_goto (tgt := 19) hx hb dL_arePoints_237 (by decide) ?_
                          exact ih_19 (i + 1) u_71 _ _ _ (by omega) (by omega) hP hS (lv_sub hl [6, 7, 8, 9, 10, 4, 3, 2, 1, 0] rfl)
                      · refine lv_aload_n hx hb dL_arePoints_192 rfl (lv_at hl 6 rfl) ?_
                        refine lv_iload hx hb dL_arePoints_193 (lv_at hl 10 rfl) ?_
                        refine cx_iald (k := i) hx hb hK hP 36 1 pw_36 rfl (by omega) (by decide) dL_arePoints_195 ?_
                        refine cx_top (y := ((R 22) i)) rfl ?_
                        refine lv_aload hx hb dL_arePoints_196 (lv_at hl 7 rfl) ?_
                        refine lv_iload hx hb dL_arePoints_198 (lv_at hl 10 rfl) ?_
                        refine cx_iald (k := i) hx hb hK hP 37 1 pw_37 rfl (by omega) (by decide) dL_arePoints_200 ?_
                        refine cx_top (y := ((R 23) i)) rfl ?_
                        refine lv_isub hx hb dL_arePoints_201 ?_
                        refine cx_top (show (((R 22) i) - ((R 23) i)) = (diF (R 22) (dr (R 20) lm) i) from by rw [ht]; rfl) ?_
                        refine cx_ri (va_runS (As := [.int (diF (R 22) (dr (R 20) lm) i)]) (rest := []) ⟨hx, hb, hml, hown, hts⟩ (c_L_amount l  (diF (R 22) (dr (R 20) lm) i)) (va_cwS 1 hts gL_arePoints_L_amount rfl rfl rfl (by decide +kernel) ⟨Nat.le_of_ble_eq_true rfl, Nat.le_of_ble_eq_true rfl⟩) ⟨pc_blind, (fun U hU hW => ⟨rfl, trivial⟩)⟩ rfl rfl hl.1 rfl (lv_room (Nat.le_of_ble_eq_true rfl)) dL_arePoints_202 ⟨Nat.le_of_ble_eq_true rfl, Nat.le_of_ble_eq_true rfl⟩) hS hP (fun H locs hP hS => ?_)
                        refine lv_goto (tgt := 210) hx hb dL_arePoints_205 (by decide) ?_
                        refine cx_top (show (abI (diF (R 22) (dr (R 20) lm) i)) = (gaS (diF (R 22) (dr (R 20) lm)) (i + 1)) from ga_f (f := (diF (R 22) (dr (R 20) lm))) c_189) ?_
                        refine lv_istore (lv' := [(7, .int (gaS (diF (R 22) (dr (R 20) lm)) (i + 1))), (6, .int (mnS (dr (R 20) lm) (i + 1))), (5, .int (mgS (dr (R 20) lm) (i + 1))), (10, .int (juF (dr (R 20) lm) i)), (0, .ref (ad 0)), (1, .ref (ad 34)), (2, .ref (ad 35)), (3, .ref (ad 36)), (4, .ref (ad 37)), (8, .int (gaS (juF (dr (R 20) lm)) i)), (9, .int (nI i))]) hx hb dL_arePoints_210 hl (by decide) rfl (fun ls hl => ?_)
                        refine lv_iload hx hb dL_arePoints_212 (lv_at hl 3 rfl) ?_
                        refine cx_ri (va_runS (As := [.int (juF (dr (R 20) lm) i)]) (rest := []) ⟨hx, hb, hml, hown, hts⟩ (c_L_amount l  (juF (dr (R 20) lm) i)) (va_cwS 1 hts gL_arePoints_L_amount rfl rfl rfl (by decide +kernel) ⟨Nat.le_of_ble_eq_true rfl, Nat.le_of_ble_eq_true rfl⟩) ⟨pc_blind, (fun U hU hW => ⟨rfl, trivial⟩)⟩ rfl rfl hl.1 rfl (lv_room (Nat.le_of_ble_eq_true rfl)) dL_arePoints_214 ⟨Nat.le_of_ble_eq_true rfl, Nat.le_of_ble_eq_true rfl⟩) hS hP (fun H locs hP hS => ?_)
                        refine lv_iload hx hb dL_arePoints_217 (lv_at hl 9 rfl) ?_
                        refine lv_icmp_le (tgt := 230) hx hb dL_arePoints_219 (by decide) (fun c_219 => ?_) (fun c_219 => ?_)
                        · refine lv_iload hx hb dL_arePoints_230 (lv_at hl 9 rfl) ?_
                          refine cx_top (show (gaS (juF (dr (R 20) lm)) i) = (gaS (juF (dr (R 20) lm)) (i + 1)) from ga_t (f := (juF (dr (R 20) lm))) c_219) ?_
                          refine lv_istore (lv' := [(8, .int (gaS (juF (dr (R 20) lm)) (i + 1))), (7, .int (gaS (diF (R 22) (dr (R 20) lm)) (i + 1))), (6, .int (mnS (dr (R 20) lm) (i + 1))), (5, .int (mgS (dr (R 20) lm) (i + 1))), (10, .int (juF (dr (R 20) lm) i)), (0, .ref (ad 0)), (1, .ref (ad 34)), (2, .ref (ad 35)), (3, .ref (ad 36)), (4, .ref (ad 37)), (9, .int (nI i))]) hx hb dL_arePoints_232 hl (by decide) rfl (fun ls hl => ?_)
                          refine lv_iinc (k := 10) (v := (nI (i + 1))) (lv' := [(9, .int (nI (i + 1))), (8, .int (gaS (juF (dr (R 20) lm)) (i + 1))), (7, .int (gaS (diF (R 22) (dr (R 20) lm)) (i + 1))), (6, .int (mnS (dr (R 20) lm) (i + 1))), (5, .int (mgS (dr (R 20) lm) (i + 1))), (10, .int (juF (dr (R 20) lm) i)), (0, .ref (ad 0)), (1, .ref (ad 34)), (2, .ref (ad 35)), (3, .ref (ad 36)), (4, .ref (ad 37))]) hx hb dL_arePoints_234 hl rfl (nI_add i 1) (by decide) rfl (fun ls hl => ?_)
                          refine lv_goto (tgt := 19) hx hb dL_arePoints_237 (by decide) ?_
                          exact ih_19 (i + 1) u_71 _ _ _ (by omega) (by omega) hP hS (lv_sub hl [6, 7, 8, 9, 10, 4, 3, 2, 1, 0] rfl)
                        · refine lv_iload hx hb dL_arePoints_222 (lv_at hl 3 rfl) ?_
                          refine cx_ri (va_runS (As := [.int (juF (dr (R 20) lm) i)]) (rest := []) ⟨hx, hb, hml, hown, hts⟩ (c_L_amount l  (juF (dr (R 20) lm) i)) (va_cwS 1 hts gL_arePoints_L_amount rfl rfl rfl (by decide +kernel) ⟨Nat.le_of_ble_eq_true rfl, Nat.le_of_ble_eq_true rfl⟩) ⟨pc_blind, (fun U hU hW => ⟨rfl, trivial⟩)⟩ rfl rfl hl.1 rfl (lv_room (Nat.le_of_ble_eq_true rfl)) dL_arePoints_224 ⟨Nat.le_of_ble_eq_true rfl, Nat.le_of_ble_eq_true rfl⟩) hS hP (fun H locs hP hS => ?_)
                          refine lv_goto (tgt := 232) hx hb dL_arePoints_227 (by decide) ?_
                          refine cx_top (show (abI (juF (dr (R 20) lm) i)) = (gaS (juF (dr (R 20) lm)) (i + 1)) from ga_f (f := (juF (dr (R 20) lm))) c_219) ?_
                          refine lv_istore (lv' := [(8, .int (gaS (juF (dr (R 20) lm)) (i + 1))), (7, .int (gaS (diF (R 22) (dr (R 20) lm)) (i + 1))), (6, .int (mnS (dr (R 20) lm) (i + 1))), (5, .int (mgS (dr (R 20) lm) (i + 1))), (10, .int (juF (dr (R 20) lm) i)), (0, .ref (ad 0)), (1, .ref (ad 34)), (2, .ref (ad 35)), (3, .ref (ad 36)), (4, .ref (ad 37)), (9, .int (nI i))]) hx hb dL_arePoints_232 hl (by decide) rfl (fun ls hl => ?_)
                          refine lv_iinc (k := 10) (v := (nI (i + 1))) (lv' := [(9, .int (nI (i + 1))), (8, .int (gaS (juF (dr (R 20) lm)) (i + 1))), (7, .int (gaS (diF (R 22) (dr (R 20) lm)) (i + 1))), (6, .int (mnS (dr (R 20) lm) (i + 1))), (5, .int (mgS (dr (R 20) lm) (i + 1))), (10, .int (juF (dr (R 20) lm) i)), (0, .ref (ad 0)), (1, .ref (ad 34)), (2, .ref (ad 35)), (3, .ref (ad 36)), (4, .ref (ad 37))]) hx hb dL_arePoints_234 hl rfl (nI_add i 1) (by decide) rfl (fun ls hl => ?_)
                          refine lv_goto (tgt := 19) hx hb dL_arePoints_237 (by decide) ?_
                          exact ih_19 (i + 1) u_71 _ _ _ (by omega) (by omega) hP hS (lv_sub hl [6, 7, 8, 9, 10, 4, 3, 2, 1, 0] rfl)
                  · refine lv_aload hx hb dL_arePoints_140 (lv_at hl 5 rfl) ?_
                    refine lv_iload hx hb dL_arePoints_142 (lv_at hl 10 rfl) ?_
                    refine cx_iald (k := i) hx hb hK hP 37 1 pw_37 rfl (by omega) (by decide) dL_arePoints_144 ?_
                    refine cx_top (y := ((R 23) i)) rfl ?_
                    refine lv_goto (tgt := 150) hx hb dL_arePoints_145 (by decide) ?_
                    refine cx_top (show ((R 23) i) = (mgS (dr (R 20) lm) (i + 1)) from mg_f ht c_137) ?_
                    refine lv_istore (lv' := [(5, .int (mgS (dr (R 20) lm) (i + 1))), (10, .int (juF (dr (R 20) lm) i)), (0, .ref (ad 0)), (1, .ref (ad 34)), (2, .ref (ad 35)), (3, .ref (ad 36)), (4, .ref (ad 37)), (6, .int (mnS (dr (R 20) lm) i)), (7, .int (gaS (diF (R 22) (dr (R 20) lm)) i)), (8, .int (gaS (juF (dr (R 20) lm)) i)), (9, .int (nI i))]) hx hb dL_arePoints_150 hl (by decide) rfl (fun ls hl => ?_)
                    refine lv_aload hx hb dL_arePoints_152 (lv_at hl 6 rfl) ?_
                    refine lv_iload hx hb dL_arePoints_154 (lv_at hl 10 rfl) ?_
                    refine cx_iald (k := i) hx hb hK hP 37 1 pw_37 rfl (by omega) (by decide) dL_arePoints_156 ?_
                    refine cx_top (y := ((R 23) i)) rfl ?_
                    refine lv_iload hx hb dL_arePoints_157 (lv_at hl 7 rfl) ?_
                    refine lv_icmp_ge (tgt := 170) hx hb dL_arePoints_159 (by decide) (fun c_159 => ?_) (fun c_159 => ?_)
                    · refine lv_iload hx hb dL_arePoints_170 (lv_at hl 7 rfl) ?_
                      refine cx_top (show (mnS (dr (R 20) lm) i) = (mnS (dr (R 20) lm) (i + 1)) from mn_t ht c_159) ?_
                      refine lv_istore (lv' := [(6, .int (mnS (dr (R 20) lm) (i + 1))), (5, .int (mgS (dr (R 20) lm) (i + 1))), (10, .int (juF (dr (R 20) lm) i)), (0, .ref (ad 0)), (1, .ref (ad 34)), (2, .ref (ad 35)), (3, .ref (ad 36)), (4, .ref (ad 37)), (7, .int (gaS (diF (R 22) (dr (R 20) lm)) i)), (8, .int (gaS (juF (dr (R 20) lm)) i)), (9, .int (nI i))]) hx hb dL_arePoints_172 hl (by decide) rfl (fun ls hl => ?_)
                      refine lv_aload_n hx hb dL_arePoints_174 rfl (lv_at hl 6 rfl) ?_
                      refine lv_iload hx hb dL_arePoints_175 (lv_at hl 10 rfl) ?_
                      refine cx_iald (k := i) hx hb hK hP 36 1 pw_36 rfl (by omega) (by decide) dL_arePoints_177 ?_
                      refine cx_top (y := ((R 22) i)) rfl ?_
                      refine lv_aload hx hb dL_arePoints_178 (lv_at hl 7 rfl) ?_
                      refine lv_iload hx hb dL_arePoints_180 (lv_at hl 10 rfl) ?_
                      refine cx_iald (k := i) hx hb hK hP 37 1 pw_37 rfl (by omega) (by decide) dL_arePoints_182 ?_
                      refine cx_top (y := ((R 23) i)) rfl ?_
                      refine lv_isub hx hb dL_arePoints_183 ?_
                      refine cx_top (show (((R 22) i) - ((R 23) i)) = (diF (R 22) (dr (R 20) lm) i) from by rw [ht]; rfl) ?_
                      refine cx_ri (va_runS (As := [.int (diF (R 22) (dr (R 20) lm) i)]) (rest := []) ⟨hx, hb, hml, hown, hts⟩ (c_L_amount l  (diF (R 22) (dr (R 20) lm) i)) (va_cwS 1 hts gL_arePoints_L_amount rfl rfl rfl (by decide +kernel) ⟨Nat.le_of_ble_eq_true rfl, Nat.le_of_ble_eq_true rfl⟩) ⟨pc_blind, (fun U hU hW => ⟨rfl, trivial⟩)⟩ rfl rfl hl.1 rfl (lv_room (Nat.le_of_ble_eq_true rfl)) dL_arePoints_184 ⟨Nat.le_of_ble_eq_true rfl, Nat.le_of_ble_eq_true rfl⟩) hS hP (fun H locs hP hS => ?_)
                      refine lv_iload hx hb dL_arePoints_187 (lv_at hl 8 rfl) ?_
                      refine lv_icmp_le (tgt := 208) hx hb dL_arePoints_189 (by decide) (fun c_189 => ?_) (fun c_189 => ?_)
                      · refine lv_iload hx hb dL_arePoints_208 (lv_at hl 8 rfl) ?_
                        refine cx_top (show (gaS (diF (R 22) (dr (R 20) lm)) i) = (gaS (diF (R 22) (dr (R 20) lm)) (i + 1)) from ga_t (f := (diF (R 22) (dr (R 20) lm))) c_189) ?_
                        refine lv_istore (lv' := [(7, .int (gaS (diF (R 22) (dr (R 20) lm)) (i + 1))), (6, .int (mnS (dr (R 20) lm) (i + 1))), (5, .int (mgS (dr (R 20) lm) (i + 1))), (10, .int (juF (dr (R 20) lm) i)), (0, .ref (ad 0)), (1, .ref (ad 34)), (2, .ref (ad 35)), (3, .ref (ad 36)), (4, .ref (ad 37)), (8, .int (gaS (juF (dr (R 20) lm)) i)), (9, .int (nI i))]) hx hb dL_arePoints_210 hl (by decide) rfl (fun ls hl => ?_)
                        refine lv_iload hx hb dL_arePoints_212 (lv_at hl 3 rfl) ?_
                        refine cx_ri (va_runS (As := [.int (juF (dr (R 20) lm) i)]) (rest := []) ⟨hx, hb, hml, hown, hts⟩ (c_L_amount l  (juF (dr (R 20) lm) i)) (va_cwS 1 hts gL_arePoints_L_amount rfl rfl rfl (by decide +kernel) ⟨Nat.le_of_ble_eq_true rfl, Nat.le_of_ble_eq_true rfl⟩) ⟨pc_blind, (fun U hU hW => ⟨rfl, trivial⟩)⟩ rfl rfl hl.1 rfl (lv_room (Nat.le_of_ble_eq_true rfl)) dL_arePoints_214 ⟨Nat.le_of_ble_eq_true rfl, Nat.le_of_ble_eq_true rfl⟩) hS hP (fun H locs hP hS => ?_)
                        refine lv_iload hx hb dL_arePoints_217 (lv_at hl 9 rfl) ?_
                        refine lv_icmp_le (tgt := 230) hx hb dL_arePoints_219 (by decide) (fun c_219 => ?_) (fun c_219 => ?_)
                        · refine lv_iload hx hb dL_arePoints_230 (lv_at hl 9 rfl) ?_
                          refine cx_top (show (gaS (juF (dr (R 20) lm)) i) = (gaS (juF (dr (R 20) lm)) (i + 1)) from ga_t (f := (juF (dr (R 20) lm))) c_219) ?_
                          refine lv_istore (lv' := [(8, .int (gaS (juF (dr (R 20) lm)) (i + 1))), (7, .int (gaS (diF (R 22) (dr (R 20) lm)) (i + 1))), (6, .int (mnS (dr (R 20) lm) (i + 1))), (5, .int (mgS (dr (R 20) lm) (i + 1))), (10, .int (juF (dr (R 20) lm) i)), (0, .ref (ad 0)), (1, .ref (ad 34)), (2, .ref (ad 35)), (3, .ref (ad 36)), (4, .ref (ad 37)), (9, .int (nI i))]) hx hb dL_arePoints_232 hl (by decide) rfl (fun ls hl => ?_)
                          refine lv_iinc (k := 10) (v := (nI (i + 1))) (lv' := [(9, .int (nI (i + 1))), (8, .int (gaS (juF (dr (R 20) lm)) (i + 1))), (7, .int (gaS (diF (R 22) (dr (R 20) lm)) (i + 1))), (6, .int (mnS (dr (R 20) lm) (i + 1))), (5, .int (mgS (dr (R 20) lm) (i + 1))), (10, .int (juF (dr (R 20) lm) i)), (0, .ref (ad 0)), (1, .ref (ad 34)), (2, .ref (ad 35)), (3, .ref (ad 36)), (4, .ref (ad 37))]) hx hb dL_arePoints_234 hl rfl (nI_add i 1) (by decide) rfl (fun ls hl => ?_)
                          refine lv_goto (tgt := 19) hx hb dL_arePoints_237 (by decide) ?_
                          exact ih_19 (i + 1) u_71 _ _ _ (by omega) (by omega) hP hS (lv_sub hl [6, 7, 8, 9, 10, 4, 3, 2, 1, 0] rfl)
                        · refine lv_iload hx hb dL_arePoints_222 (lv_at hl 3 rfl) ?_
                          refine cx_ri (va_runS (As := [.int (juF (dr (R 20) lm) i)]) (rest := []) ⟨hx, hb, hml, hown, hts⟩ (c_L_amount l  (juF (dr (R 20) lm) i)) (va_cwS 1 hts gL_arePoints_L_amount rfl rfl rfl (by decide +kernel) ⟨Nat.le_of_ble_eq_true rfl, Nat.le_of_ble_eq_true rfl⟩) ⟨pc_blind, (fun U hU hW => ⟨rfl, trivial⟩)⟩ rfl rfl hl.1 rfl (lv_room (Nat.le_of_ble_eq_true rfl)) dL_arePoints_224 ⟨Nat.le_of_ble_eq_true rfl, Nat.le_of_ble_eq_true rfl⟩) hS hP (fun H locs hP hS => ?_)
                          refine lv_goto (tgt := 232) hx hb dL_arePoints_227 (by decide) ?_
                          refine cx_top (show (abI (juF (dr (R 20) lm) i)) = (gaS (juF (dr (R 20) lm)) (i + 1)) from ga_f (f := (juF (dr (R 20) lm))) c_219) ?_
                          refine lv_istore (lv' := [(8, .int (gaS (juF (dr (R 20) lm)) (i + 1))), (7, .int (gaS (diF (R 22) (dr (R 20) lm)) (i + 1))), (6, .int (mnS (dr (R 20) lm) (i + 1))), (5, .int (mgS (dr (R 20) lm) (i + 1))), (10, .int (juF (dr (R 20) lm) i)), (0, .ref (ad 0)), (1, .ref (ad 34)), (2, .ref (ad 35)), (3, .ref (ad 36)), (4, .ref (ad 37)), (9, .int (nI i))]) hx hb dL_arePoints_232 hl (by decide) rfl (fun ls hl => ?_)
                          refine lv_iinc (k := 10) (v := (nI (i + 1))) (lv' := [(9, .int (nI (i + 1))), (8, .int (gaS (juF (dr (R 20) lm)) (i + 1))), (7, .int (gaS (diF (R 22) (dr (R 20) lm)) (i + 1))), (6, .int (mnS (dr (R 20) lm) (i + 1))), (5, .int (mgS (dr (R 20) lm) (i + 1))), (10, .int (juF (dr (R 20) lm) i)), (0, .ref (ad 0)), (1, .ref (ad 34)), (2, .ref (ad 35)), (3, .ref (ad 36)), (4, .ref (ad 37))]) hx hb dL_arePoints_234 hl rfl (nI_add i 1) (by decide) rfl (fun ls hl => ?_)
                          refine lv_goto (tgt := 19) hx hb dL_arePoints_237 (by decide) ?_
                          exact ih_19 (i + 1) u_71 _ _ _ (by omega) (by omega) hP hS (lv_sub hl [6, 7, 8, 9, 10, 4, 3, 2, 1, 0] rfl)
                      · refine lv_aload_n hx hb dL_arePoints_192 rfl (lv_at hl 6 rfl) ?_
                        refine lv_iload hx hb dL_arePoints_193 (lv_at hl 10 rfl) ?_
                        refine cx_iald (k := i) hx hb hK hP 36 1 pw_36 rfl (by omega) (by decide) dL_arePoints_195 ?_
                        refine cx_top (y := ((R 22) i)) rfl ?_
                        refine lv_aload hx hb dL_arePoints_196 (lv_at hl 7 rfl) ?_
                        refine lv_iload hx hb dL_arePoints_198 (lv_at hl 10 rfl) ?_
                        refine cx_iald (k := i) hx hb hK hP 37 1 pw_37 rfl (by omega) (by decide) dL_arePoints_200 ?_
                        refine cx_top (y := ((R 23) i)) rfl ?_
                        refine lv_isub hx hb dL_arePoints_201 ?_
                        refine cx_top (show (((R 22) i) - ((R 23) i)) = (diF (R 22) (dr (R 20) lm) i) from by rw [ht]; rfl) ?_
                        refine cx_ri (va_runS (As := [.int (diF (R 22) (dr (R 20) lm) i)]) (rest := []) ⟨hx, hb, hml, hown, hts⟩ (c_L_amount l  (diF (R 22) (dr (R 20) lm) i)) (va_cwS 1 hts gL_arePoints_L_amount rfl rfl rfl (by decide +kernel) ⟨Nat.le_of_ble_eq_true rfl, Nat.le_of_ble_eq_true rfl⟩) ⟨pc_blind, (fun U hU hW => ⟨rfl, trivial⟩)⟩ rfl rfl hl.1 rfl (lv_room (Nat.le_of_ble_eq_true rfl)) dL_arePoints_202 ⟨Nat.le_of_ble_eq_true rfl, Nat.le_of_ble_eq_true rfl⟩) hS hP (fun H locs hP hS => ?_)
                        refine lv_goto (tgt := 210) hx hb dL_arePoints_205 (by decide) ?_
                        refine cx_top (show (abI (diF (R 22) (dr (R 20) lm) i)) = (gaS (diF (R 22) (dr (R 20) lm)) (i + 1)) from ga_f (f := (diF (R 22) (dr (R 20) lm))) c_189) ?_
                        refine lv_istore (lv' := [(7, .int (gaS (diF (R 22) (dr (R 20) lm)) (i + 1))), (6, .int (mnS (dr (R 20) lm) (i + 1))), (5, .int (mgS (dr (R 20) lm) (i + 1))), (10, .int (juF (dr (R 20) lm) i)), (0, .ref (ad 0)), (1, .ref (ad 34)), (2, .ref (ad 35)), (3, .ref (ad 36)), (4, .ref (ad 37)), (8, .int (gaS (juF (dr (R 20) lm)) i)), (9, .int (nI i))]) hx hb dL_arePoints_210 hl (by decide) rfl (fun ls hl => ?_)
                        refine lv_iload hx hb dL_arePoints_212 (lv_at hl 3 rfl) ?_
                        refine cx_ri (va_runS (As := [.int (juF (dr (R 20) lm) i)]) (rest := []) ⟨hx, hb, hml, hown, hts⟩ (c_L_amount l  (juF (dr (R 20) lm) i)) (va_cwS 1 hts gL_arePoints_L_amount rfl rfl rfl (by decide +kernel) ⟨Nat.le_of_ble_eq_true rfl, Nat.le_of_ble_eq_true rfl⟩) ⟨pc_blind, (fun U hU hW => ⟨rfl, trivial⟩)⟩ rfl rfl hl.1 rfl (lv_room (Nat.le_of_ble_eq_true rfl)) dL_arePoints_214 ⟨Nat.le_of_ble_eq_true rfl, Nat.le_of_ble_eq_true rfl⟩) hS hP (fun H locs hP hS => ?_)
                        refine lv_iload hx hb dL_arePoints_217 (lv_at hl 9 rfl) ?_
                        refine lv_icmp_le (tgt := 230) hx hb dL_arePoints_219 (by decide) (fun c_219 => ?_) (fun c_219 => ?_)
                        · refine lv_iload hx hb dL_arePoints_230 (lv_at hl 9 rfl) ?_
                          refine cx_top (show (gaS (juF (dr (R 20) lm)) i) = (gaS (juF (dr (R 20) lm)) (i + 1)) from ga_t (f := (juF (dr (R 20) lm))) c_219) ?_
                          refine lv_istore (lv' := [(8, .int (gaS (juF (dr (R 20) lm)) (i + 1))), (7, .int (gaS (diF (R 22) (dr (R 20) lm)) (i + 1))), (6, .int (mnS (dr (R 20) lm) (i + 1))), (5, .int (mgS (dr (R 20) lm) (i + 1))), (10, .int (juF (dr (R 20) lm) i)), (0, .ref (ad 0)), (1, .ref (ad 34)), (2, .ref (ad 35)), (3, .ref (ad 36)), (4, .ref (ad 37)), (9, .int (nI i))]) hx hb dL_arePoints_232 hl (by decide) rfl (fun ls hl => ?_)
                          refine lv_iinc (k := 10) (v := (nI (i + 1))) (lv' := [(9, .int (nI (i + 1))), (8, .int (gaS (juF (dr (R 20) lm)) (i + 1))), (7, .int (gaS (diF (R 22) (dr (R 20) lm)) (i + 1))), (6, .int (mnS (dr (R 20) lm) (i + 1))), (5, .int (mgS (dr (R 20) lm) (i + 1))), (10, .int (juF (dr (R 20) lm) i)), (0, .ref (ad 0)), (1, .ref (ad 34)), (2, .ref (ad 35)), (3, .ref (ad 36)), (4, .ref (ad 37))]) hx hb dL_arePoints_234 hl rfl (nI_add i 1) (by decide) rfl (fun ls hl => ?_)
                          refine lv_goto (tgt := 19) hx hb dL_arePoints_237 (by decide) ?_
                          exact ih_19 (i + 1) u_71 _ _ _ (by omega) (by omega) hP hS (lv_sub hl [6, 7, 8, 9, 10, 4, 3, 2, 1, 0] rfl)
                        · refine lv_iload hx hb dL_arePoints_222 (lv_at hl 3 rfl) ?_
                          refine cx_ri (va_runS (As := [.int (juF (dr (R 20) lm) i)]) (rest := []) ⟨hx, hb, hml, hown, hts⟩ (c_L_amount l  (juF (dr (R 20) lm) i)) (va_cwS 1 hts gL_arePoints_L_amount rfl rfl rfl (by decide +kernel) ⟨Nat.le_of_ble_eq_true rfl, Nat.le_of_ble_eq_true rfl⟩) ⟨pc_blind, (fun U hU hW => ⟨rfl, trivial⟩)⟩ rfl rfl hl.1 rfl (lv_room (Nat.le_of_ble_eq_true rfl)) dL_arePoints_224 ⟨Nat.le_of_ble_eq_true rfl, Nat.le_of_ble_eq_true rfl⟩) hS hP (fun H locs hP hS => ?_)
                          refine lv_goto (tgt := 232) hx hb dL_arePoints_227 (by decide) ?_
                          refine cx_top (show (abI (juF (dr (R 20) lm) i)) = (gaS (juF (dr (R 20) lm)) (i + 1)) from ga_f (f := (juF (dr (R 20) lm))) c_219) ?_
                          refine lv_istore (lv' := [(8, .int (gaS (juF (dr (R 20) lm)) (i + 1))), (7, .int (gaS (diF (R 22) (dr (R 20) lm)) (i + 1))), (6, .int (mnS (dr (R 20) lm) (i + 1))), (5, .int (mgS (dr (R 20) lm) (i + 1))), (10, .int (juF (dr (R 20) lm) i)), (0, .ref (ad 0)), (1, .ref (ad 34)), (2, .ref (ad 35)), (3, .ref (ad 36)), (4, .ref (ad 37)), (9, .int (nI i))]) hx hb dL_arePoints_232 hl (by decide) rfl (fun ls hl => ?_)
                          refine lv_iinc (k := 10) (v := (nI (i + 1))) (lv' := [(9, .int (nI (i + 1))), (8, .int (gaS (juF (dr (R 20) lm)) (i + 1))), (7, .int (gaS (diF (R 22) (dr (R 20) lm)) (i + 1))), (6, .int (mnS (dr (R 20) lm) (i + 1))), (5, .int (mgS (dr (R 20) lm) (i + 1))), (10, .int (juF (dr (R 20) lm) i)), (0, .ref (ad 0)), (1, .ref (ad 34)), (2, .ref (ad 35)), (3, .ref (ad 36)), (4, .ref (ad 37))]) hx hb dL_arePoints_234 hl rfl (nI_add i 1) (by decide) rfl (fun ls hl => ?_)
                          refine lv_goto (tgt := 19) hx hb dL_arePoints_237 (by decide) ?_
                          exact ih_19 (i + 1) u_71 _ _ _ (by omega) (by omega) hP hS (lv_sub hl [6, 7, 8, 9, 10, 4, 3, 2, 1, 0] rfl)
                    · refine lv_aload hx hb dL_arePoints_162 (lv_at hl 6 rfl) ?_
                      refine lv_iload hx hb dL_arePoints_164 (lv_at hl 10 rfl) ?_
                      refine cx_iald (k := i) hx hb hK hP 37 1 pw_37 rfl (by omega) (by decide) dL_arePoints_166 ?_
                      refine cx_top (y := ((R 23) i)) rfl ?_
                      refine lv_goto (tgt := 172) hx hb dL_arePoints_167 (by decide) ?_
                      refine cx_top (show ((R 23) i) = (mnS (dr (R 20) lm) (i + 1)) from mn_f ht c_159) ?_
                      refine lv_istore (lv' := [(6, .int (mnS (dr (R 20) lm) (i + 1))), (5, .int (mgS (dr (R 20) lm) (i + 1))), (10, .int (juF (dr (R 20) lm) i)), (0, .ref (ad 0)), (1, .ref (ad 34)), (2, .ref (ad 35)), (3, .ref (ad 36)), (4, .ref (ad 37)), (7, .int (gaS (diF (R 22) (dr (R 20) lm)) i)), (8, .int (gaS (juF (dr (R 20) lm)) i)), (9, .int (nI i))]) hx hb dL_arePoints_172 hl (by decide) rfl (fun ls hl => ?_)
                      refine lv_aload_n hx hb dL_arePoints_174 rfl (lv_at hl 6 rfl) ?_
                      refine lv_iload hx hb dL_arePoints_175 (lv_at hl 10 rfl) ?_
                      refine cx_iald (k := i) hx hb hK hP 36 1 pw_36 rfl (by omega) (by decide) dL_arePoints_177 ?_
                      refine cx_top (y := ((R 22) i)) rfl ?_
                      refine lv_aload hx hb dL_arePoints_178 (lv_at hl 7 rfl) ?_
                      refine lv_iload hx hb dL_arePoints_180 (lv_at hl 10 rfl) ?_
                      refine cx_iald (k := i) hx hb hK hP 37 1 pw_37 rfl (by omega) (by decide) dL_arePoints_182 ?_
                      refine cx_top (y := ((R 23) i)) rfl ?_
                      refine lv_isub hx hb dL_arePoints_183 ?_
                      refine cx_top (show (((R 22) i) - ((R 23) i)) = (diF (R 22) (dr (R 20) lm) i) from by rw [ht]; rfl) ?_
                      refine cx_ri (va_runS (As := [.int (diF (R 22) (dr (R 20) lm) i)]) (rest := []) ⟨hx, hb, hml, hown, hts⟩ (c_L_amount l  (diF (R 22) (dr (R 20) lm) i)) (va_cwS 1 hts gL_arePoints_L_amount rfl rfl rfl (by decide +kernel) ⟨Nat.le_of_ble_eq_true rfl, Nat.le_of_ble_eq_true rfl⟩) ⟨pc_blind, (fun U hU hW => ⟨rfl, trivial⟩)⟩ rfl rfl hl.1 rfl (lv_room (Nat.le_of_ble_eq_true rfl)) dL_arePoints_184 ⟨Nat.le_of_ble_eq_true rfl, Nat.le_of_ble_eq_true rfl⟩) hS hP (fun H locs hP hS => ?_)
                      refine lv_iload hx hb dL_arePoints_187 (lv_at hl 8 rfl) ?_
                      refine lv_icmp_le (tgt := 208) hx hb dL_arePoints_189 (by decide) (fun c_189 => ?_) (fun c_189 => ?_)
                      · refine lv_iload hx hb dL_arePoints_208 (lv_at hl 8 rfl) ?_
                        refine cx_top (show (gaS (diF (R 22) (dr (R 20) lm)) i) = (gaS (diF (R 22) (dr (R 20) lm)) (i + 1)) from ga_t (f := (diF (R 22) (dr (R 20) lm))) c_189) ?_
                        refine lv_istore (lv' := [(7, .int (gaS (diF (R 22) (dr (R 20) lm)) (i + 1))), (6, .int (mnS (dr (R 20) lm) (i + 1))), (5, .int (mgS (dr (R 20) lm) (i + 1))), (10, .int (juF (dr (R 20) lm) i)), (0, .ref (ad 0)), (1, .ref (ad 34)), (2, .ref (ad 35)), (3, .ref (ad 36)), (4, .ref (ad 37)), (8, .int (gaS (juF (dr (R 20) lm)) i)), (9, .int (nI i))]) hx hb dL_arePoints_210 hl (by decide) rfl (fun ls hl => ?_)
                        refine lv_iload hx hb dL_arePoints_212 (lv_at hl 3 rfl) ?_
                        refine cx_ri (va_runS (As := [.int (juF (dr (R 20) lm) i)]) (rest := []) ⟨hx, hb, hml, hown, hts⟩ (c_L_amount l  (juF (dr (R 20) lm) i)) (va_cwS 1 hts gL_arePoints_L_amount rfl rfl rfl (by decide +kernel) ⟨Nat.le_of_ble_eq_true rfl, Nat.le_of_ble_eq_true rfl⟩) ⟨pc_blind, (fun U hU hW => ⟨rfl, trivial⟩)⟩ rfl rfl hl.1 rfl (lv_room (Nat.le_of_ble_eq_true rfl)) dL_arePoints_214 ⟨Nat.le_of_ble_eq_true rfl, Nat.le_of_ble_eq_true rfl⟩) hS hP (fun H locs hP hS => ?_)
                        refine lv_iload hx hb dL_arePoints_217 (lv_at hl 9 rfl) ?_
                        refine lv_icmp_le (tgt := 230) hx hb dL_arePoints_219 (by decide) (fun c_219 => ?_) (fun c_219 => ?_)
                        · refine lv_iload hx hb dL_arePoints_230 (lv_at hl 9 rfl) ?_
                          refine cx_top (show (gaS (juF (dr (R 20) lm)) i) = (gaS (juF (dr (R 20) lm)) (i + 1)) from ga_t (f := (juF (dr (R 20) lm))) c_219) ?_
                          refine lv_istore (lv' := [(8, .int (gaS (juF (dr (R 20) lm)) (i + 1))), (7, .int (gaS (diF (R 22) (dr (R 20) lm)) (i + 1))), (6, .int (mnS (dr (R 20) lm) (i + 1))), (5, .int (mgS (dr (R 20) lm) (i + 1))), (10, .int (juF (dr (R 20) lm) i)), (0, .ref (ad 0)), (1, .ref (ad 34)), (2, .ref (ad 35)), (3, .ref (ad 36)), (4, .ref (ad 37)), (9, .int (nI i))]) hx hb dL_arePoints_232 hl (by decide) rfl (fun ls hl => ?_)
                          refine lv_iinc (k := 10) (v := (nI (i + 1))) (lv' := [(9, .int (nI (i + 1))), (8, .int (gaS (juF (dr (R 20) lm)) (i + 1))), (7, .int (gaS (diF (R 22) (dr (R 20) lm)) (i + 1))), (6, .int (mnS (dr (R 20) lm) (i + 1))), (5, .int (mgS (dr (R 20) lm) (i + 1))), (10, .int (juF (dr (R 20) lm) i)), (0, .ref (ad 0)), (1, .ref (ad 34)), (2, .ref (ad 35)), (3, .ref (ad 36)), (4, .ref (ad 37))]) hx hb dL_arePoints_234 hl rfl (nI_add i 1) (by decide) rfl (fun ls hl => ?_)
                          refine lv_goto (tgt := 19) hx hb dL_arePoints_237 (by decide) ?_
                          exact ih_19 (i + 1) u_71 _ _ _ (by omega) (by omega) hP hS (lv_sub hl [6, 7, 8, 9, 10, 4, 3, 2, 1, 0] rfl)
                        · refine lv_iload hx hb dL_arePoints_222 (lv_at hl 3 rfl) ?_
                          refine cx_ri (va_runS (As := [.int (juF (dr (R 20) lm) i)]) (rest := []) ⟨hx, hb, hml, hown, hts⟩ (c_L_amount l  (juF (dr (R 20) lm) i)) (va_cwS 1 hts gL_arePoints_L_amount rfl rfl rfl (by decide +kernel) ⟨Nat.le_of_ble_eq_true rfl, Nat.le_of_ble_eq_true rfl⟩) ⟨pc_blind, (fun U hU hW => ⟨rfl, trivial⟩)⟩ rfl rfl hl.1 rfl (lv_room (Nat.le_of_ble_eq_true rfl)) dL_arePoints_224 ⟨Nat.le_of_ble_eq_true rfl, Nat.le_of_ble_eq_true rfl⟩) hS hP (fun H locs hP hS => ?_)
                          refine lv_goto (tgt := 232) hx hb dL_arePoints_227 (by decide) ?_
                          refine cx_top (show (abI (juF (dr (R 20) lm) i)) = (gaS (juF (dr (R 20) lm)) (i + 1)) from ga_f (f := (juF (dr (R 20) lm))) c_219) ?_
                          refine lv_istore (lv' := [(8, .int (gaS (juF (dr (R 20) lm)) (i + 1))), (7, .int (gaS (diF (R 22) (dr (R 20) lm)) (i + 1))), (6, .int (mnS (dr (R 20) lm) (i + 1))), (5, .int (mgS (dr (R 20) lm) (i + 1))), (10, .int (juF (dr (R 20) lm) i)), (0, .ref (ad 0)), (1, .ref (ad 34)), (2, .ref (ad 35)), (3, .ref (ad 36)), (4, .ref (ad 37)), (9, .int (nI i))]) hx hb dL_arePoints_232 hl (by decide) rfl (fun ls hl => ?_)
                          refine lv_iinc (k := 10) (v := (nI (i + 1))) (lv' := [(9, .int (nI (i + 1))), (8, .int (gaS (juF (dr (R 20) lm)) (i + 1))), (7, .int (gaS (diF (R 22) (dr (R 20) lm)) (i + 1))), (6, .int (mnS (dr (R 20) lm) (i + 1))), (5, .int (mgS (dr (R 20) lm) (i + 1))), (10, .int (juF (dr (R 20) lm) i)), (0, .ref (ad 0)), (1, .ref (ad 34)), (2, .ref (ad 35)), (3, .ref (ad 36)), (4, .ref (ad 37))]) hx hb dL_arePoints_234 hl rfl (nI_add i 1) (by decide) rfl (fun ls hl => ?_)
                          refine lv_goto (tgt := 19) hx hb dL_arePoints_237 (by decide) ?_
                          exact ih_19 (i + 1) u_71 _ _ _ (by omega) (by omega) hP hS (lv_sub hl [6, 7, 8, 9, 10, 4, 3, 2, 1, 0] rfl)
                      · refine lv_aload_n hx hb dL_arePoints_192 rfl (lv_at hl 6 rfl) ?_
                        refine lv_iload hx hb dL_arePoints_193 (lv_at hl 10 rfl) ?_
                        refine cx_iald (k := i) hx hb hK hP 36 1 pw_36 rfl (by omega) (by decide) dL_arePoints_195 ?_
                        refine cx_top (y := ((R 22) i)) rfl ?_
                        refine lv_aload hx hb dL_arePoints_196 (lv_at hl 7 rfl) ?_
                        refine lv_iload hx hb dL_arePoints_198 (lv_at hl 10 rfl) ?_
                        refine cx_iald (k := i) hx hb hK hP 37 1 pw_37 rfl (by omega) (by decide) dL_arePoints_200 ?_
                        refine cx_top (y := ((R 23) i)) rfl ?_
                        refine lv_isub hx hb dL_arePoints_201 ?_
                        refine cx_top (show (((R 22) i) - ((R 23) i)) = (diF (R 22) (dr (R 20) lm) i) from by rw [ht]; rfl) ?_
                        refine cx_ri (va_runS (As := [.int (diF (R 22) (dr (R 20) lm) i)]) (rest := []) ⟨hx, hb, hml, hown, hts⟩ (c_L_amount l  (diF (R 22) (dr (R 20) lm) i)) (va_cwS 1 hts gL_arePoints_L_amount rfl rfl rfl (by decide +kernel) ⟨Nat.le_of_ble_eq_true rfl, Nat.le_of_ble_eq_true rfl⟩) ⟨pc_blind, (fun U hU hW => ⟨rfl, trivial⟩)⟩ rfl rfl hl.1 rfl (lv_room (Nat.le_of_ble_eq_true rfl)) dL_arePoints_202 ⟨Nat.le_of_ble_eq_true rfl, Nat.le_of_ble_eq_true rfl⟩) hS hP (fun H locs hP hS => ?_)
                        refine lv_goto (tgt := 210) hx hb dL_arePoints_205 (by decide) ?_
                        refine cx_top (show (abI (diF (R 22) (dr (R 20) lm) i)) = (gaS (diF (R 22) (dr (R 20) lm)) (i + 1)) from ga_f (f := (diF (R 22) (dr (R 20) lm))) c_189) ?_
                        refine lv_istore (lv' := [(7, .int (gaS (diF (R 22) (dr (R 20) lm)) (i + 1))), (6, .int (mnS (dr (R 20) lm) (i + 1))), (5, .int (mgS (dr (R 20) lm) (i + 1))), (10, .int (juF (dr (R 20) lm) i)), (0, .ref (ad 0)), (1, .ref (ad 34)), (2, .ref (ad 35)), (3, .ref (ad 36)), (4, .ref (ad 37)), (8, .int (gaS (juF (dr (R 20) lm)) i)), (9, .int (nI i))]) hx hb dL_arePoints_210 hl (by decide) rfl (fun ls hl => ?_)
                        refine lv_iload hx hb dL_arePoints_212 (lv_at hl 3 rfl) ?_
                        refine cx_ri (va_runS (As := [.int (juF (dr (R 20) lm) i)]) (rest := []) ⟨hx, hb, hml, hown, hts⟩ (c_L_amount l  (juF (dr (R 20) lm) i)) (va_cwS 1 hts gL_arePoints_L_amount rfl rfl rfl (by decide +kernel) ⟨Nat.le_of_ble_eq_true rfl, Nat.le_of_ble_eq_true rfl⟩) ⟨pc_blind, (fun U hU hW => ⟨rfl, trivial⟩)⟩ rfl rfl hl.1 rfl (lv_room (Nat.le_of_ble_eq_true rfl)) dL_arePoints_214 ⟨Nat.le_of_ble_eq_true rfl, Nat.le_of_ble_eq_true rfl⟩) hS hP (fun H locs hP hS => ?_)
                        refine lv_iload hx hb dL_arePoints_217 (lv_at hl 9 rfl) ?_
                        refine lv_icmp_le (tgt := 230) hx hb dL_arePoints_219 (by decide) (fun c_219 => ?_) (fun c_219 => ?_)
                        · refine lv_iload hx hb dL_arePoints_230 (lv_at hl 9 rfl) ?_
                          refine cx_top (show (gaS (juF (dr (R 20) lm)) i) = (gaS (juF (dr (R 20) lm)) (i + 1)) from ga_t (f := (juF (dr (R 20) lm))) c_219) ?_
                          refine lv_istore (lv' := [(8, .int (gaS (juF (dr (R 20) lm)) (i + 1))), (7, .int (gaS (diF (R 22) (dr (R 20) lm)) (i + 1))), (6, .int (mnS (dr (R 20) lm) (i + 1))), (5, .int (mgS (dr (R 20) lm) (i + 1))), (10, .int (juF (dr (R 20) lm) i)), (0, .ref (ad 0)), (1, .ref (ad 34)), (2, .ref (ad 35)), (3, .ref (ad 36)), (4, .ref (ad 37)), (9, .int (nI i))]) hx hb dL_arePoints_232 hl (by decide) rfl (fun ls hl => ?_)
                          refine lv_iinc (k := 10) (v := (nI (i + 1))) (lv' := [(9, .int (nI (i + 1))), (8, .int (gaS (juF (dr (R 20) lm)) (i + 1))), (7, .int (gaS (diF (R 22) (dr (R 20) lm)) (i + 1))), (6, .int (mnS (dr (R 20) lm) (i + 1))), (5, .int (mgS (dr (R 20) lm) (i + 1))), (10, .int (juF (dr (R 20) lm) i)), (0, .ref (ad 0)), (1, .ref (ad 34)), (2, .ref (ad 35)), (3, .ref (ad 36)), (4, .ref (ad 37))]) hx hb dL_arePoints_234 hl rfl (nI_add i 1) (by decide) rfl (fun ls hl => ?_)
                          refine lv_goto (tgt := 19) hx hb dL_arePoints_237 (by decide) ?_
                          exact ih_19 (i + 1) u_71 _ _ _ (by omega) (by omega) hP hS (lv_sub hl [6, 7, 8, 9, 10, 4, 3, 2, 1, 0] rfl)
                        · refine lv_iload hx hb dL_arePoints_222 (lv_at hl 3 rfl) ?_
                          refine cx_ri (va_runS (As := [.int (juF (dr (R 20) lm) i)]) (rest := []) ⟨hx, hb, hml, hown, hts⟩ (c_L_amount l  (juF (dr (R 20) lm) i)) (va_cwS 1 hts gL_arePoints_L_amount rfl rfl rfl (by decide +kernel) ⟨Nat.le_of_ble_eq_true rfl, Nat.le_of_ble_eq_true rfl⟩) ⟨pc_blind, (fun U hU hW => ⟨rfl, trivial⟩)⟩ rfl rfl hl.1 rfl (lv_room (Nat.le_of_ble_eq_true rfl)) dL_arePoints_224 ⟨Nat.le_of_ble_eq_true rfl, Nat.le_of_ble_eq_true rfl⟩) hS hP (fun H locs hP hS => ?_)
                          refine lv_goto (tgt := 232) hx hb dL_arePoints_227 (by decide) ?_
                          refine cx_top (show (abI (juF (dr (R 20) lm) i)) = (gaS (juF (dr (R 20) lm)) (i + 1)) from ga_f (f := (juF (dr (R 20) lm))) c_219) ?_
                          refine lv_istore (lv' := [(8, .int (gaS (juF (dr (R 20) lm)) (i + 1))), (7, .int (gaS (diF (R 22) (dr (R 20) lm)) (i + 1))), (6, .int (mnS (dr (R 20) lm) (i + 1))), (5, .int (mgS (dr (R 20) lm) (i + 1))), (10, .int (juF (dr (R 20) lm) i)), (0, .ref (ad 0)), (1, .ref (ad 34)), (2, .ref (ad 35)), (3, .ref (ad 36)), (4, .ref (ad 37)), (9, .int (nI i))]) hx hb dL_arePoints_232 hl (by decide) rfl (fun ls hl => ?_)
                          refine lv_iinc (k := 10) (v := (nI (i + 1))) (lv' := [(9, .int (nI (i + 1))), (8, .int (gaS (juF (dr (R 20) lm)) (i + 1))), (7, .int (gaS (diF (R 22) (dr (R 20) lm)) (i + 1))), (6, .int (mnS (dr (R 20) lm) (i + 1))), (5, .int (mgS (dr (R 20) lm) (i + 1))), (10, .int (juF (dr (R 20) lm) i)), (0, .ref (ad 0)), (1, .ref (ad 34)), (2, .ref (ad 35)), (3, .ref (ad 36)), (4, .ref (ad 37))]) hx hb dL_arePoints_234 hl rfl (nI_add i 1) (by decide) rfl (fun ls hl => ?_)
                          refine lv_goto (tgt := 19) hx hb dL_arePoints_237 (by decide) ?_
                          exact ih_19 (i + 1) u_71 _ _ _ (by omega) (by omega) hP hS (lv_sub hl [6, 7, 8, 9, 10, 4, 3, 2, 1, 0] rfl)
                · exact absurd (pq2.trans (by rw [h0])) c_125

set_option maxHeartbeats 4000000 in
set_option maxRecDepth 100000 in
theorem c_X4_digest (l : Launch) (D : va_G) (T : Nat → ClassId) (ad : Nat → Nat) (I : Nat → Int32) (R : Nat → Nat → Int32) (sz : Nat) (len : Nat) (hAD : AD 7 ad) (hlen : len ≤ 60) (hI2 : I 2 = nI len) (hnd : NND) (hnn : nnI (msF (us (R 0))) = 0) : Met l yX4_digest wsX4_digest ({ frames := 6, cells := 0, slots := 0, locals := 133 }) (va_Pc [.ref (ad 0)] (MB D T ad I R sz)) (va_Ql (fun r (o : Nat → Int32) => r = (mdF (R 0) (I 1) (R 3) len (R 4)) ∧ True) (fun (o : Nat → Int32) t => va_P D vwCl (mw T ad (upd I 0 0) (updR R 5 o)) t.heap) (cA 7 ad sz)) 0 0 (cA 7 ad sz) := by
  refine Met.ofW (cc := cX4_digest) (maxL := 5) (ret := (some .long)) (by decide) rfl ?_
  intro p e s m args_ below meth c s₁ B hml hv
  obtain ⟨rfl, hsz, hP, hK⟩ := hv
  have hx := B.exec
  have hb := B.bytes
  have hr := B.returns
  have hts := atoms_spec (ws := wsX4_digest) B.pre
  have hown : s.vm.findClass RX4 = some m.cls := findClass_of_methodNamed B.named
  have hlocks := B.notSynchronized
  have hinX4 : ∀ w ∈ u_ws RX4 TX4 12, w ∈ wsX4_digest := by decide +kernel
  subst hsz
  have hS : va_S (cA 7 ad s.heap.size) s.heap s.heap [] := va_S.rf
  have hD : ∀ I R, va_D (cA 7 ad s.heap.size) (mw T ad I R) := fun I R => mw_D hAD (fun k hk => cA_in hk)
  have hl := lv_entry ([.ref (ad 0)]) (n := 5) (Nat.le_of_ble_eq_true rfl)
  rw [lg_entry_eq]
  generalize (lg_sl ([.ref (ad 0)]) ++ List.replicate (5 - (lg_sl ([.ref (ad 0)])).length) Slot.unset).toArray = ls at hl ⊢
  have hl : lv_has ls 5 [(0, .ref (ad 0))] := hl
  refine lv_aload_n hx hb dX4_digest_0 rfl (lv_at hl 0 rfl) ?_
  refine lv_iconst (v := 0) hx hb dX4_digest_1 (by decide) ?_
  refine cx_put (D := D) (ci := 4) (v := 0) (ty := .int) (C := RX4) (T := TX4) (N := 12) hx hb hts hinX4 tyX4 tyX4_ok nmX4 hown hK hP (hD _ _) hS 0 mw_0 rfl 0 (by decide) (hts (.fieldLink RX4 29 "SquareGearsModel" "thrown" "I") (by decide +kernel)) (fun _ h9 => h9) rfl (by decide +kernel) rfl rfl (Nat.le_of_ble_eq_true rfl) mw_I0 dX4_digest_2 (fun H locs hP hS => ?_)
  refine lv_ldc2 (v := 3733) hx hb hown (hts (.constantLong RX4 143 (3733)) (by decide +kernel)) dX4_digest_5 ?_
  refine lv_lstore_n (lv' := [(1, .long (3733)), (0, .ref (ad 0))]) hx hb dX4_digest_8 rfl hl (by decide) rfl (fun ls hl => ?_)
  refine lv_iconst (v := 0) hx hb dX4_digest_9 (by decide) ?_
  refine lv_istore_n (lv' := [(3, .int 0), (1, .long (3733)), (0, .ref (ad 0))]) hx hb dX4_digest_10 rfl hl (by decide) rfl (fun ls hl => ?_)
  suffices ih_11 : ∀ (fu : Nat) (w : Nat) (H : Heap) (locs : List Loc) (ls : Array Slot), 9 - w < fu → (w ≤ 9) → va_P D vwCl (mw T ad (upd I 0 0) R) H →  va_S (cA 7 ad s.heap.size) s.heap H locs → lv_has ls 5 [(0, .ref (ad 0)), (1, .long (hcS (cnM (R 0) (I 1)) w)), (3, .int (nI w))] → W p l e (headSpec wsX4_digest ({ frames := 6, cells := 0, slots := 0, locals := 133 })).room s m ([.ref (ad 0)] : List Value).toArray below meth c H locs 0 0 (MQ below (va_Ql (fun r (o : Nat → Int32) => r = (mdF (R 0) (I 1) (R 3) len (R 4)) ∧ True) (fun (o : Nat → Int32) t => va_P D vwCl (mw T ad (upd I 0 0) (updR R 5 o)) t.heap) (cA 7 ad s.heap.size)) ([.ref (ad 0)] : List Value).toArray s 0 0 (cA 7 ad s.heap.size)) (F0 m 11 ls []) from
    ih_11 _ 0 _ _ _ (Nat.lt_succ_self _) (by omega) hP hS (lv_sub hl [2, 1, 0] rfl)
  intro fu
  induction fu with
  | zero => intro w H locs ls hfu; exact absurd hfu (Nat.not_lt_zero _)
  | succ fu ih_11 =>
    intro w H locs ls hfu hw9 hP hS hl
    refine lv_iload_n hx hb dX4_digest_11 rfl (lv_at hl 2 rfl) ?_
    refine lv_bipush (v := 9) hx hb dX4_digest_12 (by decide) ?_
    refine lv_icmp_ge (tgt := 36) hx hb dX4_digest_14 (by decide) (fun c_14 => ?_) (fun c_14 => ?_)
    · have c_14 : 9 ≤ w := (nI_leI (a := 9) (b := w) (by omega) (by omega)).mp c_14
      obtain rfl : w = 9 := by omega
      refine lv_iconst (v := 0) hx hb dX4_digest_36 (by decide) ?_
      refine lv_istore_n (lv' := [(3, .int 0), (0, .ref (ad 0)), (1, .long (hcS (cnM (R 0) (I 1)) 9))]) hx hb dX4_digest_37 rfl hl (by decide) rfl (fun ls hl => ?_)
      suffices ih_38 : ∀ (fu : Nat) (i : Nat) (H : Heap) (locs : List Loc) (ls : Array Slot), 32 - i < fu → (i ≤ 32) → va_P D vwCl (mw T ad (upd I 0 0) R) H →  va_S (cA 7 ad s.heap.size) s.heap H locs → lv_has ls 5 [(0, .ref (ad 0)), (1, .long (hfS (wn4 (R 0)) (mdA (R 0) (I 1)) i)), (3, .int (nI i))] → W p l e (headSpec wsX4_digest ({ frames := 6, cells := 0, slots := 0, locals := 133 })).room s m ([.ref (ad 0)] : List Value).toArray below meth c H locs 0 0 (MQ below (va_Ql (fun r (o : Nat → Int32) => r = (mdF (R 0) (I 1) (R 3) len (R 4)) ∧ True) (fun (o : Nat → Int32) t => va_P D vwCl (mw T ad (upd I 0 0) (updR R 5 o)) t.heap) (cA 7 ad s.heap.size)) ([.ref (ad 0)] : List Value).toArray s 0 0 (cA 7 ad s.heap.size)) (F0 m 38 ls []) from
        ih_38 _ 0 _ _ _ (Nat.lt_succ_self _) (by omega) hP hS (lv_sub hl [1, 2, 0] rfl)
      intro fu
      induction fu with
      | zero => intro i H locs ls hfu; exact absurd hfu (Nat.not_lt_zero _)
      | succ fu ih_38 =>
        intro i H locs ls hfu hi hP hS hl
        refine lv_iload_n hx hb dX4_digest_38 rfl (lv_at hl 2 rfl) ?_
        refine lv_bipush (v := 32) hx hb dX4_digest_39 (by decide) ?_
        refine lv_icmp_ge (tgt := 68) hx hb dX4_digest_41 (by decide) (fun c_41 => ?_) (fun c_41 => ?_)
        · have c_41 : 32 ≤ i := (nI_leI (a := 32) (b := i) (by omega) (by omega)).mp c_41
          obtain rfl : i = 32 := by omega
          refine lv_iconst (v := 0) hx hb dX4_digest_68 (by decide) ?_
          refine lv_istore_n (lv' := [(3, .int 0), (0, .ref (ad 0)), (1, .long (hfS (wn4 (R 0)) (mdA (R 0) (I 1)) 32))]) hx hb dX4_digest_69 rfl hl (by decide) rfl (fun ls hl => ?_)
          suffices ih_70 : ∀ (fu : Nat) (i : Nat) (H : Heap) (locs : List Loc) (ls : Array Slot), 8 - i < fu → (i ≤ 8) → va_P D vwCl (mw T ad (upd I 0 0) R) H →  va_S (cA 7 ad s.heap.size) s.heap H locs → lv_has ls 5 [(0, .ref (ad 0)), (1, .long (hpS (us (R 0)) (pnF (qz (R 0)) (us (R 0))) (mdB (R 0) (I 1)) i)), (3, .int (nI i))] → W p l e (headSpec wsX4_digest ({ frames := 6, cells := 0, slots := 0, locals := 133 })).room s m ([.ref (ad 0)] : List Value).toArray below meth c H locs 0 0 (MQ below (va_Ql (fun r (o : Nat → Int32) => r = (mdF (R 0) (I 1) (R 3) len (R 4)) ∧ True) (fun (o : Nat → Int32) t => va_P D vwCl (mw T ad (upd I 0 0) (updR R 5 o)) t.heap) (cA 7 ad s.heap.size)) ([.ref (ad 0)] : List Value).toArray s 0 0 (cA 7 ad s.heap.size)) (F0 m 70 ls []) from
            ih_70 _ 0 _ _ _ (Nat.lt_succ_self _) (by omega) hP hS (lv_sub hl [1, 2, 0] rfl)
          intro fu
          induction fu with
          | zero => intro i H locs ls hfu; exact absurd hfu (Nat.not_lt_zero _)
          | succ fu ih_70 =>
            intro i H locs ls hfu hi hP hS hl
            refine lv_iload_n hx hb dX4_digest_70 rfl (lv_at hl 2 rfl) ?_
            refine lv_bipush (v := 8) hx hb dX4_digest_71 (by decide) ?_
            refine lv_icmp_ge (tgt := 136) hx hb dX4_digest_73 (by decide) (fun c_73 => ?_) (fun c_73 => ?_)
            · have c_73 : 8 ≤ i := (nI_leI (a := 8) (b := i) (by omega) (by omega)).mp c_73
              obtain rfl : i = 8 := by omega
              refine lv_ldc2 (v := 31) hx hb hown (hts (.constantLong RX4 145 (31)) (by decide +kernel)) dX4_digest_136 ?_
              refine lv_lload_n hx hb dX4_digest_139 rfl (lv_at hl 1 rfl) ?_
              refine lv_lmul hx hb dX4_digest_140 ?_
              refine lv_aload_n hx hb dX4_digest_141 rfl (lv_at hl 0 rfl) ?_
              refine cx_ri (va_runV (As := []) (rest := [.long (31 * (hpS (us (R 0)) (pnF (qz (R 0)) (us (R 0))) (mdB (R 0) (I 1)) 8))]) ⟨hx, hb, hml, hown, hts⟩ (c_X4_explaining l D T ad (upd I 0 0) R ) (cwV 0 hts gX4_digest_X4_explaining rfl rfl rfl (by decide +kernel) ⟨Nat.le_of_ble_eq_true rfl, Nat.le_of_ble_eq_true rfl⟩) ⟨MR.blind, va_recv hK hP (ci := 4) (q0 := 0) rfl mw_0, (MR.pre hP hK rfl)⟩ rfl rfl hl.1 rfl (lv_room (Nat.le_of_ble_eq_true rfl)) dX4_digest_142 ⟨Nat.le_of_ble_eq_true rfl, Nat.le_of_ble_eq_true rfl⟩) hS hP (fun H locs hP hS => ?_)
              refine lv_i2l hx hb dX4_digest_145 rfl ?_
              refine lv_ladd hx hb dX4_digest_146 ?_
              refine cx_topl (show ((31 * (hpS (us (R 0)) (pnF (qz (R 0)) (us (R 0))) (mdB (R 0) (I 1)) 8)) + (Int32.toInt64 (flF (diF (qz ((R 0))) (us ((R 0))))))) = (mdD (R 0) (I 1)) from rfl) ?_
              refine lv_lstore_n (lv' := [(1, .long (mdD (R 0) (I 1))), (0, .ref (ad 0)), (3, .int (nI 8))]) hx hb dX4_digest_147 rfl hl (by decide) rfl (fun ls hl => ?_)
              refine lv_ldc2 (v := 31) hx hb hown (hts (.constantLong RX4 145 (31)) (by decide +kernel)) dX4_digest_148 ?_
              refine lv_ldc2 (v := 31) hx hb hown (hts (.constantLong RX4 145 (31)) (by decide +kernel)) dX4_digest_151 ?_
              refine lv_lload_n hx hb dX4_digest_154 rfl (lv_at hl 0 rfl) ?_
              refine lv_lmul hx hb dX4_digest_155 ?_
              refine lv_aload_n hx hb dX4_digest_156 rfl (lv_at hl 1 rfl) ?_
              refine lv_iconst (v := 0) hx hb dX4_digest_157 (by decide) ?_
              refine cx_wi (va_runV (As := [.int 0]) (rest := [.long (31 * (mdD (R 0) (I 1))), .long (31)]) ⟨hx, hb, hml, hown, hts⟩ (c_X4_fewest l D T ad (upd I 0 0) R _ 0 (hAD)) (cwV 1 hts gX4_digest_X4_fewest rfl rfl rfl (by decide +kernel) ⟨Nat.le_of_ble_eq_true rfl, Nat.le_of_ble_eq_true rfl⟩) ⟨MB.blind, va_recv hK hP (ci := 4) (q0 := 0) rfl mw_0, (MB.pre hP hK rfl)⟩ rfl rfl hl.1 rfl (lv_room (Nat.le_of_ble_eq_true rfl)) dX4_digest_158 ⟨Nat.le_of_ble_eq_true rfl, Nat.le_of_ble_eq_true rfl⟩) hS (cA_le hS.1) (cA_le hS.1) (fun u_158 H locs hu_158 hP hkk hS => ?_)
              refine lv_i2l hx hb dX4_digest_161 rfl ?_
              refine lv_ladd hx hb dX4_digest_162 ?_
              refine lv_lmul hx hb dX4_digest_163 ?_
              refine lv_aload_n hx hb dX4_digest_164 rfl (lv_at hl 1 rfl) ?_
              refine lv_iconst (v := 0) hx hb dX4_digest_165 (by decide) ?_
              refine cx_wi (va_runV (As := [.int 0]) (rest := [.long (31 * ((31 * (mdD (R 0) (I 1))) + (Int32.toInt64 (nI (fmF ((R 0)) 0)))))]) ⟨hx, hb, hml, hown, hts⟩ (c_X4_fewest l D T ad (upd I 0 0) (updR R 5 u_158) _ 0 (hAD)) (cwV 1 hts gX4_digest_X4_fewest rfl rfl rfl (by decide +kernel) ⟨Nat.le_of_ble_eq_true rfl, Nat.le_of_ble_eq_true rfl⟩) ⟨MB.blind, va_recv hK hP (ci := 4) (q0 := 0) rfl mw_0, (MB.pre hP hK rfl)⟩ rfl rfl hl.1 rfl (lv_room (Nat.le_of_ble_eq_true rfl)) dX4_digest_166 ⟨Nat.le_of_ble_eq_true rfl, Nat.le_of_ble_eq_true rfl⟩) hS (cA_le hS.1) (cA_le hS.1) (fun u_166 H locs hu_166 hP hkk hS => ?_)
              have hP := m_upd hP
              refine lv_i2l hx hb dX4_digest_169 rfl ?_
              refine lv_ladd hx hb dX4_digest_170 ?_
              refine cx_topl (show ((31 * ((31 * (mdD (R 0) (I 1))) + (Int32.toInt64 (nI (fmF ((R 0)) 0))))) + (Int32.toInt64 (nI (fmF ((R 0)) 0)))) = (mdE (R 0) 0 (mdD (R 0) (I 1))) from rfl) ?_
              refine lv_lstore_n (lv' := [(1, .long (mdE (R 0) 0 (mdD (R 0) (I 1)))), (0, .ref (ad 0)), (3, .int (nI 8))]) hx hb dX4_digest_171 rfl hl (by decide) rfl (fun ls hl => ?_)
              refine lv_ldc2 (v := 31) hx hb hown (hts (.constantLong RX4 145 (31)) (by decide +kernel)) dX4_digest_172 ?_
              refine lv_ldc2 (v := 31) hx hb hown (hts (.constantLong RX4 145 (31)) (by decide +kernel)) dX4_digest_175 ?_
              refine lv_lload_n hx hb dX4_digest_178 rfl (lv_at hl 0 rfl) ?_
              refine lv_lmul hx hb dX4_digest_179 ?_
              refine lv_aload_n hx hb dX4_digest_180 rfl (lv_at hl 1 rfl) ?_
              refine lv_sipush (v := 1000) hx hb dX4_digest_181 (by decide) ?_
              refine cx_wi (va_runV (As := [.int 1000]) (rest := [.long (31 * (mdE (R 0) 0 (mdD (R 0) (I 1)))), .long (31)]) ⟨hx, hb, hml, hown, hts⟩ (c_X4_fewest l D T ad (upd I 0 0) (updR R 5 u_166) _ 1000 (hAD)) (cwV 1 hts gX4_digest_X4_fewest rfl rfl rfl (by decide +kernel) ⟨Nat.le_of_ble_eq_true rfl, Nat.le_of_ble_eq_true rfl⟩) ⟨MB.blind, va_recv hK hP (ci := 4) (q0 := 0) rfl mw_0, (MB.pre hP hK rfl)⟩ rfl rfl hl.1 rfl (lv_room (Nat.le_of_ble_eq_true rfl)) dX4_digest_184 ⟨Nat.le_of_ble_eq_true rfl, Nat.le_of_ble_eq_true rfl⟩) hS (cA_le hS.1) (cA_le hS.1) (fun u_184 H locs hu_184 hP hkk hS => ?_)
              refine lv_i2l hx hb dX4_digest_187 rfl ?_
              refine lv_ladd hx hb dX4_digest_188 ?_
              refine lv_lmul hx hb dX4_digest_189 ?_
              refine lv_aload_n hx hb dX4_digest_190 rfl (lv_at hl 1 rfl) ?_
              refine lv_sipush (v := 1000) hx hb dX4_digest_191 (by decide) ?_
              refine cx_wi (va_runV (As := [.int 1000]) (rest := [.long (31 * ((31 * (mdE (R 0) 0 (mdD (R 0) (I 1)))) + (Int32.toInt64 (nI (fmF ((R 0)) 1000)))))]) ⟨hx, hb, hml, hown, hts⟩ (c_X4_fewest l D T ad (upd I 0 0) (updR (updR R 5 u_166) 5 u_184) _ 1000 (hAD)) (cwV 1 hts gX4_digest_X4_fewest rfl rfl rfl (by decide +kernel) ⟨Nat.le_of_ble_eq_true rfl, Nat.le_of_ble_eq_true rfl⟩) ⟨MB.blind, va_recv hK hP (ci := 4) (q0 := 0) rfl mw_0, (MB.pre hP hK rfl)⟩ rfl rfl hl.1 rfl (lv_room (Nat.le_of_ble_eq_true rfl)) dX4_digest_194 ⟨Nat.le_of_ble_eq_true rfl, Nat.le_of_ble_eq_true rfl⟩) hS (cA_le hS.1) (cA_le hS.1) (fun u_194 H locs hu_194 hP hkk hS => ?_)
              have hP := m_upd hP
              refine lv_i2l hx hb dX4_digest_197 rfl ?_
              refine lv_ladd hx hb dX4_digest_198 ?_
              refine cx_topl (show ((31 * ((31 * (mdE (R 0) 0 (mdD (R 0) (I 1)))) + (Int32.toInt64 (nI (fmF ((R 0)) 1000))))) + (Int32.toInt64 (nI (fmF ((R 0)) 1000)))) = (mdE (R 0) 1000 (mdE (R 0) 0 (mdD (R 0) (I 1)))) from rfl) ?_
              refine lv_lstore_n (lv' := [(1, .long (mdE (R 0) 1000 (mdE (R 0) 0 (mdD (R 0) (I 1))))), (0, .ref (ad 0)), (3, .int (nI 8))]) hx hb dX4_digest_199 rfl hl (by decide) rfl (fun ls hl => ?_)
              refine lv_ldc2 (v := 31) hx hb hown (hts (.constantLong RX4 145 (31)) (by decide +kernel)) dX4_digest_200 ?_
              refine lv_ldc2 (v := 31) hx hb hown (hts (.constantLong RX4 145 (31)) (by decide +kernel)) dX4_digest_203 ?_
              refine lv_lload_n hx hb dX4_digest_206 rfl (lv_at hl 0 rfl) ?_
              refine lv_lmul hx hb dX4_digest_207 ?_
              refine lv_aload_n hx hb dX4_digest_208 rfl (lv_at hl 1 rfl) ?_
              refine lv_ldc (v := 100000) hx hb hown (hts (.constant RX4 147 (100000)) (by decide +kernel)) dX4_digest_209 ?_
              refine cx_wi (va_runV (As := [.int 100000]) (rest := [.long (31 * (mdE (R 0) 1000 (mdE (R 0) 0 (mdD (R 0) (I 1))))), .long (31)]) ⟨hx, hb, hml, hown, hts⟩ (c_X4_fewest l D T ad (upd I 0 0) (updR R 5 u_194) _ 100000 (hAD)) (cwV 1 hts gX4_digest_X4_fewest rfl rfl rfl (by decide +kernel) ⟨Nat.le_of_ble_eq_true rfl, Nat.le_of_ble_eq_true rfl⟩) ⟨MB.blind, va_recv hK hP (ci := 4) (q0 := 0) rfl mw_0, (MB.pre hP hK rfl)⟩ rfl rfl hl.1 rfl (lv_room (Nat.le_of_ble_eq_true rfl)) dX4_digest_211 ⟨Nat.le_of_ble_eq_true rfl, Nat.le_of_ble_eq_true rfl⟩) hS (cA_le hS.1) (cA_le hS.1) (fun u_211 H locs hu_211 hP hkk hS => ?_)
              have hP := m_upd hP
              refine lv_i2l hx hb dX4_digest_214 rfl ?_
              refine lv_ladd hx hb dX4_digest_215 ?_
              refine lv_lmul hx hb dX4_digest_216 ?_
              refine lv_aload_n hx hb dX4_digest_217 rfl (lv_at hl 1 rfl) ?_
              refine lv_ldc (v := 100000) hx hb hown (hts (.constant RX4 147 (100000)) (by decide +kernel)) dX4_digest_218 ?_
              refine cx_wi (va_runV (As := [.int 100000]) (rest := [.long (31 * ((31 * (mdE (R 0) 1000 (mdE (R 0) 0 (mdD (R 0) (I 1))))) + (Int32.toInt64 (nI (fmF ((R 0)) 100000)))))]) ⟨hx, hb, hml, hown, hts⟩ (c_X4_fewest l D T ad (upd I 0 0) (updR R 5 u_211) _ 100000 (hAD)) (cwV 1 hts gX4_digest_X4_fewest rfl rfl rfl (by decide +kernel) ⟨Nat.le_of_ble_eq_true rfl, Nat.le_of_ble_eq_true rfl⟩) ⟨MB.blind, va_recv hK hP (ci := 4) (q0 := 0) rfl mw_0, (MB.pre hP hK rfl)⟩ rfl rfl hl.1 rfl (lv_room (Nat.le_of_ble_eq_true rfl)) dX4_digest_220 ⟨Nat.le_of_ble_eq_true rfl, Nat.le_of_ble_eq_true rfl⟩) hS (cA_le hS.1) (cA_le hS.1) (fun u_220 H locs hu_220 hP hkk hS => ?_)
              have hP := m_upd hP
              refine lv_i2l hx hb dX4_digest_223 rfl ?_
              refine lv_ladd hx hb dX4_digest_224 ?_
              refine cx_topl (show ((31 * ((31 * (mdE (R 0) 1000 (mdE (R 0) 0 (mdD (R 0) (I 1))))) + (Int32.toInt64 (nI (fmF ((R 0)) 100000))))) + (Int32.toInt64 (nI (fmF ((R 0)) 100000)))) = (mdG (R 0) (I 1)) from rfl) ?_
              refine lv_lstore_n (lv' := [(1, .long (mdG (R 0) (I 1))), (0, .ref (ad 0)), (3, .int (nI 8))]) hx hb dX4_digest_225 rfl hl (by decide) rfl (fun ls hl => ?_)
              refine lv_iconst (v := 0) hx hb dX4_digest_226 (by decide) ?_
              refine lv_istore_n (lv' := [(3, .int 0), (1, .long (mdG (R 0) (I 1))), (0, .ref (ad 0))]) hx hb dX4_digest_227 rfl hl (by decide) rfl (fun ls hl => ?_)
              suffices ih_228 : ∀ (fu : Nat) (i : Nat) (H : Heap) (locs : List Loc) (ls : Array Slot), 8 - i < fu → (i ≤ 8) → va_P D vwCl (mw T ad (upd I 0 0) (updR R 5 u_220)) H →  va_S (cA 7 ad s.heap.size) s.heap H locs → lv_has ls 5 [(0, .ref (ad 0)), (1, .long (hfS (tuS5 (us (R 0))) (mdG (R 0) (I 1)) i)), (3, .int (nI i))] → W p l e (headSpec wsX4_digest ({ frames := 6, cells := 0, slots := 0, locals := 133 })).room s m ([.ref (ad 0)] : List Value).toArray below meth c H locs 0 0 (MQ below (va_Ql (fun r (o : Nat → Int32) => r = (mdF (R 0) (I 1) (R 3) len (R 4)) ∧ True) (fun (o : Nat → Int32) t => va_P D vwCl (mw T ad (upd I 0 0) (updR R 5 o)) t.heap) (cA 7 ad s.heap.size)) ([.ref (ad 0)] : List Value).toArray s 0 0 (cA 7 ad s.heap.size)) (F0 m 228 ls []) from
                ih_228 _ 0 _ _ _ (Nat.lt_succ_self _) (by omega) hP hS (lv_sub hl [2, 1, 0] rfl)
              intro fu
              induction fu with
              | zero => intro i H locs ls hfu; exact absurd hfu (Nat.not_lt_zero _)
              | succ fu ih_228 =>
                intro i H locs ls hfu hi hP hS hl
                refine lv_iload_n hx hb dX4_digest_228 rfl (lv_at hl 2 rfl) ?_
                refine lv_bipush (v := 8) hx hb dX4_digest_229 (by decide) ?_
                refine lv_icmp_ge (tgt := 255) hx hb dX4_digest_231 (by decide) (fun c_231 => ?_) (fun c_231 => ?_)
                · have c_231 : 8 ≤ i := (nI_leI (a := 8) (b := i) (by omega) (by omega)).mp c_231
                  obtain rfl : i = 8 := by omega
                  refine lv_ldc2 (v := 31) hx hb hown (hts (.constantLong RX4 145 (31)) (by decide +kernel)) dX4_digest_255 ?_
                  refine lv_lload_n hx hb dX4_digest_258 rfl (lv_at hl 1 rfl) ?_
                  refine lv_lmul hx hb dX4_digest_259 ?_
                  refine lv_aload_n hx hb dX4_digest_260 rfl (lv_at hl 0 rfl) ?_
                  refine cx_ri (va_runV (As := []) (rest := [.long (31 * (hfS (tuS5 (us (R 0))) (mdG (R 0) (I 1)) 8))]) ⟨hx, hb, hml, hown, hts⟩ (c_X4_nearestTurn l D T ad (upd I 0 0) (updR R 5 u_220) ) (cwV 0 hts gX4_digest_X4_nearestTurn rfl rfl rfl (by decide +kernel) ⟨Nat.le_of_ble_eq_true rfl, Nat.le_of_ble_eq_true rfl⟩) ⟨MR.blind, va_recv hK hP (ci := 4) (q0 := 0) rfl mw_0, (MR.pre hP hK rfl)⟩ rfl rfl hl.1 rfl (lv_room (Nat.le_of_ble_eq_true rfl)) dX4_digest_261 ⟨Nat.le_of_ble_eq_true rfl, Nat.le_of_ble_eq_true rfl⟩) hS hP (fun H locs hP hS => ?_)
                  refine lv_i2l hx hb dX4_digest_264 rfl ?_
                  refine lv_ladd hx hb dX4_digest_265 ?_
                  refine lv_lstore_n (lv' := [(1, .long ((31 * (hfS (tuS5 (us (R 0))) (mdG (R 0) (I 1)) 8)) + (Int32.toInt64 (nI (btS (fun b => dtS (qz ((R 0))) (us ((R 0))) b 8) 7))))), (0, .ref (ad 0)), (3, .int (nI 8))]) hx hb dX4_digest_266 rfl hl (by decide) rfl (fun ls hl => ?_)
                  refine lv_ldc2 (v := 31) hx hb hown (hts (.constantLong RX4 145 (31)) (by decide +kernel)) dX4_digest_267 ?_
                  refine lv_lload_n hx hb dX4_digest_270 rfl (lv_at hl 0 rfl) ?_
                  refine lv_lmul hx hb dX4_digest_271 ?_
                  refine lv_aload_n hx hb dX4_digest_272 rfl (lv_at hl 1 rfl) ?_
                  refine cx_rd (va_runV (As := []) (rest := [.long (31 * ((31 * (hfS (tuS5 (us (R 0))) (mdG (R 0) (I 1)) 8)) + (Int32.toInt64 (nI (btS (fun b => dtS (qz ((R 0))) (us ((R 0))) b 8) 7)))))]) ⟨hx, hb, hml, hown, hts⟩ (c_X4_share l D T ad (upd I 0 0) (updR R 5 u_220) (hnd)) (cwV 0 hts gX4_digest_X4_share rfl rfl rfl (by decide +kernel) ⟨Nat.le_of_ble_eq_true rfl, Nat.le_of_ble_eq_true rfl⟩) ⟨MR.blind, va_recv hK hP (ci := 4) (q0 := 0) rfl mw_0, (MR.pre hP hK rfl)⟩ rfl rfl hl.1 rfl (lv_room (Nat.le_of_ble_eq_true rfl)) dX4_digest_273 ⟨Nat.le_of_ble_eq_true rfl, Nat.le_of_ble_eq_true rfl⟩) hS hP (fun H locs hP hS => ?_)
                  refine cx_rl (va_runS (As := [.double (msF (us ((R 0))))]) (rest := [.long (31 * ((31 * (hfS (tuS5 (us (R 0))) (mdG (R 0) (I 1)) 8)) + (Int32.toInt64 (nI (btS (fun b => dtS (qz ((R 0))) (us ((R 0))) b 8) 7)))))]) ⟨hx, hb, hml, hown, hts⟩ (c_Jxe99ae_doubleToLongBits_ccdee l  (msF (us ((R 0)))) (hnn)) (va_cwS 1 hts gX4_digest_Jxe99ae_doubleToLongBits_ccdee rfl rfl rfl (by decide +kernel) ⟨Nat.le_of_ble_eq_true rfl, Nat.le_of_ble_eq_true rfl⟩) ⟨pc_blind, (fun U hU hW => ⟨rfl, trivial⟩)⟩ rfl rfl hl.1 rfl (lv_room (Nat.le_of_ble_eq_true rfl)) dX4_digest_276 ⟨Nat.le_of_ble_eq_true rfl, Nat.le_of_ble_eq_true rfl⟩) hS hP (fun H locs hP hS => ?_)
                  refine lv_ladd hx hb dX4_digest_279 ?_
                  refine cx_topl (show ((31 * ((31 * (hfS (tuS5 (us (R 0))) (mdG (R 0) (I 1)) 8)) + (Int32.toInt64 (nI (btS (fun b => dtS (qz ((R 0))) (us ((R 0))) b 8) 7))))) + ((msF (us ((R 0)))).toInt64)) = (mdJ (R 0) (I 1)) from rfl) ?_
                  refine lv_lstore_n (lv' := [(1, .long (mdJ (R 0) (I 1))), (0, .ref (ad 0)), (3, .int (nI 8))]) hx hb dX4_digest_280 rfl hl (by decide) rfl (fun ls hl => ?_)
                  refine lv_ldc2 (v := 31) hx hb hown (hts (.constantLong RX4 145 (31)) (by decide +kernel)) dX4_digest_281 ?_
                  refine lv_ldc2 (v := 31) hx hb hown (hts (.constantLong RX4 145 (31)) (by decide +kernel)) dX4_digest_284 ?_
                  refine lv_lload_n hx hb dX4_digest_287 rfl (lv_at hl 0 rfl) ?_
                  refine lv_lmul hx hb dX4_digest_288 ?_
                  refine lv_aload_n hx hb dX4_digest_289 rfl (lv_at hl 1 rfl) ?_
                  refine va_get (D := D) (ci := 4) (v := .ref (ad 4)) (C := RX4) (T := TX4) (N := 12) hx hb hts hinX4 hown hK hP 0 mw_0 rfl 5 (by decide) (hts (.fieldLink RX4 19 "SquareGearsModel" "isKept" "[Z") (by decide +kernel)) (fun _ h9 => h9) rfl dX4_digest_290 ?_
                  refine lv_iconst (v := 0) hx hb dX4_digest_293 (by decide) ?_
                  refine cx_zald (k := 0) hx hb hK hP 4 2 mw_4 rfl (by decide) (by decide) dX4_digest_294 ?_
                  refine lv_if_eq (tgt := 302) hx hb dX4_digest_295 (by decide) (fun c_295 => ?_) (fun c_295 => ?_)
                  · refine lv_iconst (v := 0) hx hb dX4_digest_302 (by decide) ?_
                    refine lv_i2l hx hb dX4_digest_303 rfl ?_
                    refine cx_topl (show (Int32.toInt64 0) = (kqL (R 3) 0) from by first | exact kq_t c_295 | exact kq_f c_295) ?_
                    refine lv_ladd hx hb dX4_digest_304 ?_
                    refine lv_lmul hx hb dX4_digest_305 ?_
                    refine lv_aload_n hx hb dX4_digest_306 rfl (lv_at hl 1 rfl) ?_
                    refine va_get (D := D) (ci := 4) (v := .ref (ad 4)) (C := RX4) (T := TX4) (N := 12) hx hb hts hinX4 hown hK hP 0 mw_0 rfl 5 (by decide) (hts (.fieldLink RX4 19 "SquareGearsModel" "isKept" "[Z") (by decide +kernel)) (fun _ h9 => h9) rfl dX4_digest_307 ?_
                    refine lv_iconst (v := 1) hx hb dX4_digest_310 (by decide) ?_
                    refine cx_zald (k := 1) hx hb hK hP 4 2 mw_4 rfl (by decide) (by decide) dX4_digest_311 ?_
                    refine lv_if_eq (tgt := 319) hx hb dX4_digest_312 (by decide) (fun c_312 => ?_) (fun c_312 => ?_)
                    · refine lv_iconst (v := 0) hx hb dX4_digest_319 (by decide) ?_
                      refine lv_i2l hx hb dX4_digest_320 rfl ?_
                      refine cx_topl (show (Int32.toInt64 0) = (kqL (R 3) 1) from by first | exact kq_t c_312 | exact kq_f c_312) ?_
                      refine lv_ladd hx hb dX4_digest_321 ?_
                      refine lv_lstore_n (lv' := [(1, .long ((31 * ((31 * (mdJ (R 0) (I 1))) + (kqL (R 3) 0))) + (kqL (R 3) 1))), (0, .ref (ad 0)), (3, .int (nI 8))]) hx hb dX4_digest_322 rfl hl (by decide) rfl (fun ls hl => ?_)
                      refine lv_ldc2 (v := 31) hx hb hown (hts (.constantLong RX4 145 (31)) (by decide +kernel)) dX4_digest_323 ?_
                      refine lv_lload_n hx hb dX4_digest_326 rfl (lv_at hl 0 rfl) ?_
                      refine lv_lmul hx hb dX4_digest_327 ?_
                      refine lv_aload_n hx hb dX4_digest_328 rfl (lv_at hl 1 rfl) ?_
                      refine va_get (D := D) (ci := 4) (v := .int (I 2)) (C := RX4) (T := TX4) (N := 12) hx hb hts hinX4 hown hK hP 0 mw_0 rfl 7 (by decide) (hts (.fieldLink RX4 74 "SquareGearsModel" "length" "I") (by decide +kernel)) (fun _ h9 => h9) rfl dX4_digest_329 ?_
                      refine cx_top (show (I 2) = (nI len) from hI2) ?_
                      refine lv_i2l hx hb dX4_digest_332 rfl ?_
                      refine lv_ladd hx hb dX4_digest_333 ?_
                      refine cx_topl (show ((31 * ((31 * ((31 * (mdJ (R 0) (I 1))) + (kqL (R 3) 0))) + (kqL (R 3) 1))) + (Int32.toInt64 (nI len))) = (mdK (R 0) (I 1) (R 3) len) from rfl) ?_
                      refine lv_lstore_n (lv' := [(1, .long (mdK (R 0) (I 1) (R 3) len)), (0, .ref (ad 0)), (3, .int (nI 8))]) hx hb dX4_digest_334 rfl hl (by decide) rfl (fun ls hl => ?_)
                      refine lv_iconst (v := 0) hx hb dX4_digest_335 (by decide) ?_
                      refine lv_istore_n (lv' := [(3, .int 0), (1, .long (mdK (R 0) (I 1) (R 3) len)), (0, .ref (ad 0))]) hx hb dX4_digest_336 rfl hl (by decide) rfl (fun ls hl => ?_)
                      suffices ih_337 : ∀ (fu : Nat) (i : Nat) (H : Heap) (locs : List Loc) (ls : Array Slot), len - i < fu → (i ≤ len) → va_P D vwCl (mw T ad (upd I 0 0) (updR R 5 u_220)) H →  va_S (cA 7 ad s.heap.size) s.heap H locs → lv_has ls 5 [(0, .ref (ad 0)), (1, .long (hfS (R 4) (mdK (R 0) (I 1) (R 3) len) i)), (3, .int (nI i))] → W p l e (headSpec wsX4_digest ({ frames := 6, cells := 0, slots := 0, locals := 133 })).room s m ([.ref (ad 0)] : List Value).toArray below meth c H locs 0 0 (MQ below (va_Ql (fun r (o : Nat → Int32) => r = (mdF (R 0) (I 1) (R 3) len (R 4)) ∧ True) (fun (o : Nat → Int32) t => va_P D vwCl (mw T ad (upd I 0 0) (updR R 5 o)) t.heap) (cA 7 ad s.heap.size)) ([.ref (ad 0)] : List Value).toArray s 0 0 (cA 7 ad s.heap.size)) (F0 m 337 ls []) from
                        ih_337 _ 0 _ _ _ (Nat.lt_succ_self _) (by omega) hP hS (lv_sub hl [2, 1, 0] rfl)
                      intro fu
                      induction fu with
                      | zero => intro i H locs ls hfu; exact absurd hfu (Nat.not_lt_zero _)
                      | succ fu ih_337 =>
                        intro i H locs ls hfu hil hP hS hl
                        refine lv_iload_n hx hb dX4_digest_337 rfl (lv_at hl 2 rfl) ?_
                        refine lv_aload_n hx hb dX4_digest_338 rfl (lv_at hl 0 rfl) ?_
                        refine va_get (D := D) (ci := 4) (v := .int (I 2)) (C := RX4) (T := TX4) (N := 12) hx hb hts hinX4 hown hK hP 0 mw_0 rfl 7 (by decide) (hts (.fieldLink RX4 74 "SquareGearsModel" "length" "I") (by decide +kernel)) (fun _ h9 => h9) rfl dX4_digest_339 ?_
                        refine cx_top (show (I 2) = (nI len) from hI2) ?_
                        refine lv_icmp_ge (tgt := 365) hx hb dX4_digest_342 (by decide) (fun c_342 => ?_) (fun c_342 => ?_)
                        · have c_342 : len ≤ i := (nI_leI (a := len) (b := i) (by omega) (by omega)).mp c_342
                          have e9 : i = len := by omega
                          refine lv_lload_n hx hb dX4_digest_365 rfl (lv_at hl 1 rfl) ?_
                          exact W.lret (v := (hfS (R 4) (mdK (R 0) (I 1) (R 3) len) i)) hx hb hr (fun t ht hW => ⟨⟨(hfS (R 4) (mdK (R 0) (I 1) (R 3) len) i), u_220, rfl, ⟨by rw [e9]; rfl, trivial⟩, by show va_P _ _ _ _; rw [ht]; exact hP⟩, hS.F ht⟩) hS.2.2 dX4_digest_366
                        · have c_342 : ¬ (len ≤ i) := fun h => c_342 ((nI_leI (a := len) (b := i) (by omega) (by omega)).mpr h)
                          refine lv_ldc2 (v := 31) hx hb hown (hts (.constantLong RX4 145 (31)) (by decide +kernel)) dX4_digest_345 ?_
                          refine lv_lload_n hx hb dX4_digest_348 rfl (lv_at hl 1 rfl) ?_
                          refine lv_lmul hx hb dX4_digest_349 ?_
                          refine lv_aload_n hx hb dX4_digest_350 rfl (lv_at hl 0 rfl) ?_
                          refine va_get (D := D) (ci := 4) (v := .ref (ad 5)) (C := RX4) (T := TX4) (N := 12) hx hb hts hinX4 hown hK hP 0 mw_0 rfl 6 (by decide) (hts (.fieldLink RX4 23 "SquareGearsModel" "text" "[I") (by decide +kernel)) (fun _ h9 => h9) rfl dX4_digest_351 ?_
                          refine lv_iload_n hx hb dX4_digest_354 rfl (lv_at hl 2 rfl) ?_
                          refine cx_iald (k := i) hx hb hK hP 5 1 mw_5 rfl (by omega) (by decide) dX4_digest_355 ?_
                          refine lv_i2l hx hb dX4_digest_356 rfl ?_
                          refine lv_ladd hx hb dX4_digest_357 ?_
                          refine lv_lstore_n (lv' := [(1, .long ((31 * (hfS (R 4) (mdK (R 0) (I 1) (R 3) len) i)) + (Int32.toInt64 ((R 4) i)))), (0, .ref (ad 0)), (3, .int (nI i))]) hx hb dX4_digest_358 rfl hl (by decide) rfl (fun ls hl => ?_)
                          refine lv_iinc (k := 2) (v := (nI (i + 1))) (lv' := [(3, .int (nI (i + 1))), (1, .long ((31 * (hfS (R 4) (mdK (R 0) (I 1) (R 3) len) i)) + (Int32.toInt64 ((R 4) i)))), (0, .ref (ad 0))]) hx hb dX4_digest_359 hl rfl (nI_add i 1) (by decide) rfl (fun ls hl => ?_)
                          refine lv_goto (tgt := 337) hx hb dX4_digest_362 (by decide) ?_
                          exact ih_337 (i + 1) _ _ _ (by omega) (by omega) hP hS (lv_sub hl [2, 1, 0] rfl)
                    · refine lv_iconst (v := 1) hx hb dX4_digest_315 (by decide) ?_
                      refine lv_goto (tgt := 320) hx hb dX4_digest_316 (by decide) ?_
                      refine lv_i2l hx hb dX4_digest_320 rfl ?_
                      refine cx_topl (show (Int32.toInt64 1) = (kqL (R 3) 1) from by first | exact kq_t c_312 | exact kq_f c_312) ?_
                      refine lv_ladd hx hb dX4_digest_321 ?_
                      refine lv_lstore_n (lv' := [(1, .long ((31 * ((31 * (mdJ (R 0) (I 1))) + (kqL (R 3) 0))) + (kqL (R 3) 1))), (0, .ref (ad 0)), (3, .int (nI 8))]) hx hb dX4_digest_322 rfl hl (by decide) rfl (fun ls hl => ?_)
                      refine lv_ldc2 (v := 31) hx hb hown (hts (.constantLong RX4 145 (31)) (by decide +kernel)) dX4_digest_323 ?_
                      refine lv_lload_n hx hb dX4_digest_326 rfl (lv_at hl 0 rfl) ?_
                      refine lv_lmul hx hb dX4_digest_327 ?_
                      refine lv_aload_n hx hb dX4_digest_328 rfl (lv_at hl 1 rfl) ?_
                      refine va_get (D := D) (ci := 4) (v := .int (I 2)) (C := RX4) (T := TX4) (N := 12) hx hb hts hinX4 hown hK hP 0 mw_0 rfl 7 (by decide) (hts (.fieldLink RX4 74 "SquareGearsModel" "length" "I") (by decide +kernel)) (fun _ h9 => h9) rfl dX4_digest_329 ?_
                      refine cx_top (show (I 2) = (nI len) from hI2) ?_
                      refine lv_i2l hx hb dX4_digest_332 rfl ?_
                      refine lv_ladd hx hb dX4_digest_333 ?_
                      refine cx_topl (show ((31 * ((31 * ((31 * (mdJ (R 0) (I 1))) + (kqL (R 3) 0))) + (kqL (R 3) 1))) + (Int32.toInt64 (nI len))) = (mdK (R 0) (I 1) (R 3) len) from rfl) ?_
                      refine lv_lstore_n (lv' := [(1, .long (mdK (R 0) (I 1) (R 3) len)), (0, .ref (ad 0)), (3, .int (nI 8))]) hx hb dX4_digest_334 rfl hl (by decide) rfl (fun ls hl => ?_)
                      refine lv_iconst (v := 0) hx hb dX4_digest_335 (by decide) ?_
                      refine lv_istore_n (lv' := [(3, .int 0), (1, .long (mdK (R 0) (I 1) (R 3) len)), (0, .ref (ad 0))]) hx hb dX4_digest_336 rfl hl (by decide) rfl (fun ls hl => ?_)
                      suffices ih_337 : ∀ (fu : Nat) (i : Nat) (H : Heap) (locs : List Loc) (ls : Array Slot), len - i < fu → (i ≤ len) → va_P D vwCl (mw T ad (upd I 0 0) (updR R 5 u_220)) H →  va_S (cA 7 ad s.heap.size) s.heap H locs → lv_has ls 5 [(0, .ref (ad 0)), (1, .long (hfS (R 4) (mdK (R 0) (I 1) (R 3) len) i)), (3, .int (nI i))] → W p l e (headSpec wsX4_digest ({ frames := 6, cells := 0, slots := 0, locals := 133 })).room s m ([.ref (ad 0)] : List Value).toArray below meth c H locs 0 0 (MQ below (va_Ql (fun r (o : Nat → Int32) => r = (mdF (R 0) (I 1) (R 3) len (R 4)) ∧ True) (fun (o : Nat → Int32) t => va_P D vwCl (mw T ad (upd I 0 0) (updR R 5 o)) t.heap) (cA 7 ad s.heap.size)) ([.ref (ad 0)] : List Value).toArray s 0 0 (cA 7 ad s.heap.size)) (F0 m 337 ls []) from
                        ih_337 _ 0 _ _ _ (Nat.lt_succ_self _) (by omega) hP hS (lv_sub hl [2, 1, 0] rfl)
                      intro fu
                      induction fu with
                      | zero => intro i H locs ls hfu; exact absurd hfu (Nat.not_lt_zero _)
                      | succ fu ih_337 =>
                        intro i H locs ls hfu hil hP hS hl
                        refine lv_iload_n hx hb dX4_digest_337 rfl (lv_at hl 2 rfl) ?_
                        refine lv_aload_n hx hb dX4_digest_338 rfl (lv_at hl 0 rfl) ?_
                        refine va_get (D := D) (ci := 4) (v := .int (I 2)) (C := RX4) (T := TX4) (N := 12) hx hb hts hinX4 hown hK hP 0 mw_0 rfl 7 (by decide) (hts (.fieldLink RX4 74 "SquareGearsModel" "length" "I") (by decide +kernel)) (fun _ h9 => h9) rfl dX4_digest_339 ?_
                        refine cx_top (show (I 2) = (nI len) from hI2) ?_
                        refine lv_icmp_ge (tgt := 365) hx hb dX4_digest_342 (by decide) (fun c_342 => ?_) (fun c_342 => ?_)
                        · have c_342 : len ≤ i := (nI_leI (a := len) (b := i) (by omega) (by omega)).mp c_342
                          have e9 : i = len := by omega
                          refine lv_lload_n hx hb dX4_digest_365 rfl (lv_at hl 1 rfl) ?_
                          exact W.lret (v := (hfS (R 4) (mdK (R 0) (I 1) (R 3) len) i)) hx hb hr (fun t ht hW => ⟨⟨(hfS (R 4) (mdK (R 0) (I 1) (R 3) len) i), u_220, rfl, ⟨by rw [e9]; rfl, trivial⟩, by show va_P _ _ _ _; rw [ht]; exact hP⟩, hS.F ht⟩) hS.2.2 dX4_digest_366
                        · have c_342 : ¬ (len ≤ i) := fun h => c_342 ((nI_leI (a := len) (b := i) (by omega) (by omega)).mpr h)
                          refine lv_ldc2 (v := 31) hx hb hown (hts (.constantLong RX4 145 (31)) (by decide +kernel)) dX4_digest_345 ?_
                          refine lv_lload_n hx hb dX4_digest_348 rfl (lv_at hl 1 rfl) ?_
                          refine lv_lmul hx hb dX4_digest_349 ?_
                          refine lv_aload_n hx hb dX4_digest_350 rfl (lv_at hl 0 rfl) ?_
                          refine va_get (D := D) (ci := 4) (v := .ref (ad 5)) (C := RX4) (T := TX4) (N := 12) hx hb hts hinX4 hown hK hP 0 mw_0 rfl 6 (by decide) (hts (.fieldLink RX4 23 "SquareGearsModel" "text" "[I") (by decide +kernel)) (fun _ h9 => h9) rfl dX4_digest_351 ?_
                          refine lv_iload_n hx hb dX4_digest_354 rfl (lv_at hl 2 rfl) ?_
                          refine cx_iald (k := i) hx hb hK hP 5 1 mw_5 rfl (by omega) (by decide) dX4_digest_355 ?_
                          refine lv_i2l hx hb dX4_digest_356 rfl ?_
                          refine lv_ladd hx hb dX4_digest_357 ?_
                          refine lv_lstore_n (lv' := [(1, .long ((31 * (hfS (R 4) (mdK (R 0) (I 1) (R 3) len) i)) + (Int32.toInt64 ((R 4) i)))), (0, .ref (ad 0)), (3, .int (nI i))]) hx hb dX4_digest_358 rfl hl (by decide) rfl (fun ls hl => ?_)
                          refine lv_iinc (k := 2) (v := (nI (i + 1))) (lv' := [(3, .int (nI (i + 1))), (1, .long ((31 * (hfS (R 4) (mdK (R 0) (I 1) (R 3) len) i)) + (Int32.toInt64 ((R 4) i)))), (0, .ref (ad 0))]) hx hb dX4_digest_359 hl rfl (nI_add i 1) (by decide) rfl (fun ls hl => ?_)
                          refine lv_goto (tgt := 337) hx hb dX4_digest_362 (by decide) ?_
                          exact ih_337 (i + 1) _ _ _ (by omega) (by omega) hP hS (lv_sub hl [2, 1, 0] rfl)
                  · refine lv_iconst (v := 1) hx hb dX4_digest_298 (by decide) ?_
                    refine lv_goto (tgt := 303) hx hb dX4_digest_299 (by decide) ?_
                    refine lv_i2l hx hb dX4_digest_303 rfl ?_
                    refine cx_topl (show (Int32.toInt64 1) = (kqL (R 3) 0) from by first | exact kq_t c_295 | exact kq_f c_295) ?_
                    refine lv_ladd hx hb dX4_digest_304 ?_
                    refine lv_lmul hx hb dX4_digest_305 ?_
                    refine lv_aload_n hx hb dX4_digest_306 rfl (lv_at hl 1 rfl) ?_
                    refine va_get (D := D) (ci := 4) (v := .ref (ad 4)) (C := RX4) (T := TX4) (N := 12) hx hb hts hinX4 hown hK hP 0 mw_0 rfl 5 (by decide) (hts (.fieldLink RX4 19 "SquareGearsModel" "isKept" "[Z") (by decide +kernel)) (fun _ h9 => h9) rfl dX4_digest_307 ?_
                    refine lv_iconst (v := 1) hx hb dX4_digest_310 (by decide) ?_
                    refine cx_zald (k := 1) hx hb hK hP 4 2 mw_4 rfl (by decide) (by decide) dX4_digest_311 ?_
                    refine lv_if_eq (tgt := 319) hx hb dX4_digest_312 (by decide) (fun c_312 => ?_) (fun c_312 => ?_)
                    · refine lv_iconst (v := 0) hx hb dX4_digest_319 (by decide) ?_
                      refine lv_i2l hx hb dX4_digest_320 rfl ?_
                      refine cx_topl (show (Int32.toInt64 0) = (kqL (R 3) 1) from by first | exact kq_t c_312 | exact kq_f c_312) ?_
                      refine lv_ladd hx hb dX4_digest_321 ?_
                      refine lv_lstore_n (lv' := [(1, .long ((31 * ((31 * (mdJ (R 0) (I 1))) + (kqL (R 3) 0))) + (kqL (R 3) 1))), (0, .ref (ad 0)), (3, .int (nI 8))]) hx hb dX4_digest_322 rfl hl (by decide) rfl (fun ls hl => ?_)
                      refine lv_ldc2 (v := 31) hx hb hown (hts (.constantLong RX4 145 (31)) (by decide +kernel)) dX4_digest_323 ?_
                      refine lv_lload_n hx hb dX4_digest_326 rfl (lv_at hl 0 rfl) ?_
                      refine lv_lmul hx hb dX4_digest_327 ?_
                      refine lv_aload_n hx hb dX4_digest_328 rfl (lv_at hl 1 rfl) ?_
                      refine va_get (D := D) (ci := 4) (v := .int (I 2)) (C := RX4) (T := TX4) (N := 12) hx hb hts hinX4 hown hK hP 0 mw_0 rfl 7 (by decide) (hts (.fieldLink RX4 74 "SquareGearsModel" "length" "I") (by decide +kernel)) (fun _ h9 => h9) rfl dX4_digest_329 ?_
                      refine cx_top (show (I 2) = (nI len) from hI2) ?_
                      refine lv_i2l hx hb dX4_digest_332 rfl ?_
                      refine lv_ladd hx hb dX4_digest_333 ?_
                      refine cx_topl (show ((31 * ((31 * ((31 * (mdJ (R 0) (I 1))) + (kqL (R 3) 0))) + (kqL (R 3) 1))) + (Int32.toInt64 (nI len))) = (mdK (R 0) (I 1) (R 3) len) from rfl) ?_
                      refine lv_lstore_n (lv' := [(1, .long (mdK (R 0) (I 1) (R 3) len)), (0, .ref (ad 0)), (3, .int (nI 8))]) hx hb dX4_digest_334 rfl hl (by decide) rfl (fun ls hl => ?_)
                      refine lv_iconst (v := 0) hx hb dX4_digest_335 (by decide) ?_
                      refine lv_istore_n (lv' := [(3, .int 0), (1, .long (mdK (R 0) (I 1) (R 3) len)), (0, .ref (ad 0))]) hx hb dX4_digest_336 rfl hl (by decide) rfl (fun ls hl => ?_)
                      suffices ih_337 : ∀ (fu : Nat) (i : Nat) (H : Heap) (locs : List Loc) (ls : Array Slot), len - i < fu → (i ≤ len) → va_P D vwCl (mw T ad (upd I 0 0) (updR R 5 u_220)) H →  va_S (cA 7 ad s.heap.size) s.heap H locs → lv_has ls 5 [(0, .ref (ad 0)), (1, .long (hfS (R 4) (mdK (R 0) (I 1) (R 3) len) i)), (3, .int (nI i))] → W p l e (headSpec wsX4_digest ({ frames := 6, cells := 0, slots := 0, locals := 133 })).room s m ([.ref (ad 0)] : List Value).toArray below meth c H locs 0 0 (MQ below (va_Ql (fun r (o : Nat → Int32) => r = (mdF (R 0) (I 1) (R 3) len (R 4)) ∧ True) (fun (o : Nat → Int32) t => va_P D vwCl (mw T ad (upd I 0 0) (updR R 5 o)) t.heap) (cA 7 ad s.heap.size)) ([.ref (ad 0)] : List Value).toArray s 0 0 (cA 7 ad s.heap.size)) (F0 m 337 ls []) from
                        ih_337 _ 0 _ _ _ (Nat.lt_succ_self _) (by omega) hP hS (lv_sub hl [2, 1, 0] rfl)
                      intro fu
                      induction fu with
                      | zero => intro i H locs ls hfu; exact absurd hfu (Nat.not_lt_zero _)
                      | succ fu ih_337 =>
                        intro i H locs ls hfu hil hP hS hl
                        refine lv_iload_n hx hb dX4_digest_337 rfl (lv_at hl 2 rfl) ?_
                        refine lv_aload_n hx hb dX4_digest_338 rfl (lv_at hl 0 rfl) ?_
                        refine va_get (D := D) (ci := 4) (v := .int (I 2)) (C := RX4) (T := TX4) (N := 12) hx hb hts hinX4 hown hK hP 0 mw_0 rfl 7 (by decide) (hts (.fieldLink RX4 74 "SquareGearsModel" "length" "I") (by decide +kernel)) (fun _ h9 => h9) rfl dX4_digest_339 ?_
                        refine cx_top (show (I 2) = (nI len) from hI2) ?_
                        refine lv_icmp_ge (tgt := 365) hx hb dX4_digest_342 (by decide) (fun c_342 => ?_) (fun c_342 => ?_)
                        · have c_342 : len ≤ i := (nI_leI (a := len) (b := i) (by omega) (by omega)).mp c_342
                          have e9 : i = len := by omega
                          refine lv_lload_n hx hb dX4_digest_365 rfl (lv_at hl 1 rfl) ?_
                          exact W.lret (v := (hfS (R 4) (mdK (R 0) (I 1) (R 3) len) i)) hx hb hr (fun t ht hW => ⟨⟨(hfS (R 4) (mdK (R 0) (I 1) (R 3) len) i), u_220, rfl, ⟨by rw [e9]; rfl, trivial⟩, by show va_P _ _ _ _; rw [ht]; exact hP⟩, hS.F ht⟩) hS.2.2 dX4_digest_366
                        · have c_342 : ¬ (len ≤ i) := fun h => c_342 ((nI_leI (a := len) (b := i) (by omega) (by omega)).mpr h)
                          refine lv_ldc2 (v := 31) hx hb hown (hts (.constantLong RX4 145 (31)) (by decide +kernel)) dX4_digest_345 ?_
                          refine lv_lload_n hx hb dX4_digest_348 rfl (lv_at hl 1 rfl) ?_
                          refine lv_lmul hx hb dX4_digest_349 ?_
                          refine lv_aload_n hx hb dX4_digest_350 rfl (lv_at hl 0 rfl) ?_
                          refine va_get (D := D) (ci := 4) (v := .ref (ad 5)) (C := RX4) (T := TX4) (N := 12) hx hb hts hinX4 hown hK hP 0 mw_0 rfl 6 (by decide) (hts (.fieldLink RX4 23 "SquareGearsModel" "text" "[I") (by decide +kernel)) (fun _ h9 => h9) rfl dX4_digest_351 ?_
                          refine lv_iload_n hx hb dX4_digest_354 rfl (lv_at hl 2 rfl) ?_
                          refine cx_iald (k := i) hx hb hK hP 5 1 mw_5 rfl (by omega) (by decide) dX4_digest_355 ?_
                          refine lv_i2l hx hb dX4_digest_356 rfl ?_
                          refine lv_ladd hx hb dX4_digest_357 ?_
                          refine lv_lstore_n (lv' := [(1, .long ((31 * (hfS (R 4) (mdK (R 0) (I 1) (R 3) len) i)) + (Int32.toInt64 ((R 4) i)))), (0, .ref (ad 0)), (3, .int (nI i))]) hx hb dX4_digest_358 rfl hl (by decide) rfl (fun ls hl => ?_)
                          refine lv_iinc (k := 2) (v := (nI (i + 1))) (lv' := [(3, .int (nI (i + 1))), (1, .long ((31 * (hfS (R 4) (mdK (R 0) (I 1) (R 3) len) i)) + (Int32.toInt64 ((R 4) i)))), (0, .ref (ad 0))]) hx hb dX4_digest_359 hl rfl (nI_add i 1) (by decide) rfl (fun ls hl => ?_)
                          refine lv_goto (tgt := 337) hx hb dX4_digest_362 (by decide) ?_
                          exact ih_337 (i + 1) _ _ _ (by omega) (by omega) hP hS (lv_sub hl [2, 1, 0] rfl)
                    · refine lv_iconst (v := 1) hx hb dX4_digest_315 (by decide) ?_
                      refine lv_goto (tgt := 320) hx hb dX4_digest_316 (by decide) ?_
                      refine lv_i2l hx hb dX4_digest_320 rfl ?_
                      refine cx_topl (show (Int32.toInt64 1) = (kqL (R 3) 1) from by first | exact kq_t c_312 | exact kq_f c_312) ?_
                      refine lv_ladd hx hb dX4_digest_321 ?_
                      refine lv_lstore_n (lv' := [(1, .long ((31 * ((31 * (mdJ (R 0) (I 1))) + (kqL (R 3) 0))) + (kqL (R 3) 1))), (0, .ref (ad 0)), (3, .int (nI 8))]) hx hb dX4_digest_322 rfl hl (by decide) rfl (fun ls hl => ?_)
                      refine lv_ldc2 (v := 31) hx hb hown (hts (.constantLong RX4 145 (31)) (by decide +kernel)) dX4_digest_323 ?_
                      refine lv_lload_n hx hb dX4_digest_326 rfl (lv_at hl 0 rfl) ?_
                      refine lv_lmul hx hb dX4_digest_327 ?_
                      refine lv_aload_n hx hb dX4_digest_328 rfl (lv_at hl 1 rfl) ?_
                      refine va_get (D := D) (ci := 4) (v := .int (I 2)) (C := RX4) (T := TX4) (N := 12) hx hb hts hinX4 hown hK hP 0 mw_0 rfl 7 (by decide) (hts (.fieldLink RX4 74 "SquareGearsModel" "length" "I") (by decide +kernel)) (fun _ h9 => h9) rfl dX4_digest_329 ?_
                      refine cx_top (show (I 2) = (nI len) from hI2) ?_
                      refine lv_i2l hx hb dX4_digest_332 rfl ?_
                      refine lv_ladd hx hb dX4_digest_333 ?_
                      refine cx_topl (show ((31 * ((31 * ((31 * (mdJ (R 0) (I 1))) + (kqL (R 3) 0))) + (kqL (R 3) 1))) + (Int32.toInt64 (nI len))) = (mdK (R 0) (I 1) (R 3) len) from rfl) ?_
                      refine lv_lstore_n (lv' := [(1, .long (mdK (R 0) (I 1) (R 3) len)), (0, .ref (ad 0)), (3, .int (nI 8))]) hx hb dX4_digest_334 rfl hl (by decide) rfl (fun ls hl => ?_)
                      refine lv_iconst (v := 0) hx hb dX4_digest_335 (by decide) ?_
                      refine lv_istore_n (lv' := [(3, .int 0), (1, .long (mdK (R 0) (I 1) (R 3) len)), (0, .ref (ad 0))]) hx hb dX4_digest_336 rfl hl (by decide) rfl (fun ls hl => ?_)
                      suffices ih_337 : ∀ (fu : Nat) (i : Nat) (H : Heap) (locs : List Loc) (ls : Array Slot), len - i < fu → (i ≤ len) → va_P D vwCl (mw T ad (upd I 0 0) (updR R 5 u_220)) H →  va_S (cA 7 ad s.heap.size) s.heap H locs → lv_has ls 5 [(0, .ref (ad 0)), (1, .long (hfS (R 4) (mdK (R 0) (I 1) (R 3) len) i)), (3, .int (nI i))] → W p l e (headSpec wsX4_digest ({ frames := 6, cells := 0, slots := 0, locals := 133 })).room s m ([.ref (ad 0)] : List Value).toArray below meth c H locs 0 0 (MQ below (va_Ql (fun r (o : Nat → Int32) => r = (mdF (R 0) (I 1) (R 3) len (R 4)) ∧ True) (fun (o : Nat → Int32) t => va_P D vwCl (mw T ad (upd I 0 0) (updR R 5 o)) t.heap) (cA 7 ad s.heap.size)) ([.ref (ad 0)] : List Value).toArray s 0 0 (cA 7 ad s.heap.size)) (F0 m 337 ls []) from
                        ih_337 _ 0 _ _ _ (Nat.lt_succ_self _) (by omega) hP hS (lv_sub hl [2, 1, 0] rfl)
                      intro fu
                      induction fu with
                      | zero => intro i H locs ls hfu; exact absurd hfu (Nat.not_lt_zero _)
                      | succ fu ih_337 =>
                        intro i H locs ls hfu hil hP hS hl
                        refine lv_iload_n hx hb dX4_digest_337 rfl (lv_at hl 2 rfl) ?_
                        refine lv_aload_n hx hb dX4_digest_338 rfl (lv_at hl 0 rfl) ?_
                        refine va_get (D := D) (ci := 4) (v := .int (I 2)) (C := RX4) (T := TX4) (N := 12) hx hb hts hinX4 hown hK hP 0 mw_0 rfl 7 (by decide) (hts (.fieldLink RX4 74 "SquareGearsModel" "length" "I") (by decide +kernel)) (fun _ h9 => h9) rfl dX4_digest_339 ?_
                        refine cx_top (show (I 2) = (nI len) from hI2) ?_
                        refine lv_icmp_ge (tgt := 365) hx hb dX4_digest_342 (by decide) (fun c_342 => ?_) (fun c_342 => ?_)
                        · have c_342 : len ≤ i := (nI_leI (a := len) (b := i) (by omega) (by omega)).mp c_342
                          have e9 : i = len := by omega
                          refine lv_lload_n hx hb dX4_digest_365 rfl (lv_at hl 1 rfl) ?_
                          exact W.lret (v := (hfS (R 4) (mdK (R 0) (I 1) (R 3) len) i)) hx hb hr (fun t ht hW => ⟨⟨(hfS (R 4) (mdK (R 0) (I 1) (R 3) len) i), u_220, rfl, ⟨by rw [e9]; rfl, trivial⟩, by show va_P _ _ _ _; rw [ht]; exact hP⟩, hS.F ht⟩) hS.2.2 dX4_digest_366
                        · have c_342 : ¬ (len ≤ i) := fun h => c_342 ((nI_leI (a := len) (b := i) (by omega) (by omega)).mpr h)
                          refine lv_ldc2 (v := 31) hx hb hown (hts (.constantLong RX4 145 (31)) (by decide +kernel)) dX4_digest_345 ?_
                          refine lv_lload_n hx hb dX4_digest_348 rfl (lv_at hl 1 rfl) ?_
                          refine lv_lmul hx hb dX4_digest_349 ?_
                          refine lv_aload_n hx hb dX4_digest_350 rfl (lv_at hl 0 rfl) ?_
                          refine va_get (D := D) (ci := 4) (v := .ref (ad 5)) (C := RX4) (T := TX4) (N := 12) hx hb hts hinX4 hown hK hP 0 mw_0 rfl 6 (by decide) (hts (.fieldLink RX4 23 "SquareGearsModel" "text" "[I") (by decide +kernel)) (fun _ h9 => h9) rfl dX4_digest_351 ?_
                          refine lv_iload_n hx hb dX4_digest_354 rfl (lv_at hl 2 rfl) ?_
                          refine cx_iald (k := i) hx hb hK hP 5 1 mw_5 rfl (by omega) (by decide) dX4_digest_355 ?_
                          refine lv_i2l hx hb dX4_digest_356 rfl ?_
                          refine lv_ladd hx hb dX4_digest_357 ?_
                          refine lv_lstore_n (lv' := [(1, .long ((31 * (hfS (R 4) (mdK (R 0) (I 1) (R 3) len) i)) + (Int32.toInt64 ((R 4) i)))), (0, .ref (ad 0)), (3, .int (nI i))]) hx hb dX4_digest_358 rfl hl (by decide) rfl (fun ls hl => ?_)
                          refine lv_iinc (k := 2) (v := (nI (i + 1))) (lv' := [(3, .int (nI (i + 1))), (1, .long ((31 * (hfS (R 4) (mdK (R 0) (I 1) (R 3) len) i)) + (Int32.toInt64 ((R 4) i)))), (0, .ref (ad 0))]) hx hb dX4_digest_359 hl rfl (nI_add i 1) (by decide) rfl (fun ls hl => ?_)
                          refine lv_goto (tgt := 337) hx hb dX4_digest_362 (by decide) ?_
                          exact ih_337 (i + 1) _ _ _ (by omega) (by omega) hP hS (lv_sub hl [2, 1, 0] rfl)
                · have c_231 : ¬ (8 ≤ i) := fun h => c_231 ((nI_leI (a := 8) (b := i) (by omega) (by omega)).mpr h)
                  refine lv_ldc2 (v := 31) hx hb hown (hts (.constantLong RX4 145 (31)) (by decide +kernel)) dX4_digest_234 ?_
                  refine lv_lload_n hx hb dX4_digest_237 rfl (lv_at hl 1 rfl) ?_
                  refine lv_lmul hx hb dX4_digest_238 ?_
                  refine lv_aload_n hx hb dX4_digest_239 rfl (lv_at hl 0 rfl) ?_
                  refine lv_iload_n hx hb dX4_digest_240 rfl (lv_at hl 2 rfl) ?_
                  refine lv_iconst (v := 5) hx hb dX4_digest_241 (by decide) ?_
                  refine lv_ixor hx hb dX4_digest_242 ?_
                  refine cx_top (show ((nI i) ^^^ 5) = (nI (i ^^^ 5)) from nI_xor (by omega) (b := 5) (by decide)) ?_
                  refine cx_ri (va_runV (As := [.int (nI (i ^^^ 5))]) (rest := [.long (31 * (hfS (tuS5 (us (R 0))) (mdG (R 0) (I 1)) i))]) ⟨hx, hb, hml, hown, hts⟩ (c_X4_traceAt l D T ad (upd I 0 0) (updR R 5 u_220) (i ^^^ 5) (xor_lt (by omega) (by decide))) (cwV 1 hts gX4_digest_X4_traceAt rfl rfl rfl (by decide +kernel) ⟨Nat.le_of_ble_eq_true rfl, Nat.le_of_ble_eq_true rfl⟩) ⟨MR.blind, va_recv hK hP (ci := 4) (q0 := 0) rfl mw_0, (MR.pre hP hK rfl)⟩ rfl rfl hl.1 rfl (lv_room (Nat.le_of_ble_eq_true rfl)) dX4_digest_243 ⟨Nat.le_of_ble_eq_true rfl, Nat.le_of_ble_eq_true rfl⟩) hS hP (fun H locs hP hS => ?_)
                  refine cx_top (show (trS (us ((R 0))) (i ^^^ 5) 8) = (tuS5 (us (R 0)) i) from rfl) ?_
                  refine lv_i2l hx hb dX4_digest_246 rfl ?_
                  refine lv_ladd hx hb dX4_digest_247 ?_
                  refine lv_lstore_n (lv' := [(1, .long ((31 * (hfS (tuS5 (us (R 0))) (mdG (R 0) (I 1)) i)) + (Int32.toInt64 (tuS5 (us (R 0)) i)))), (0, .ref (ad 0)), (3, .int (nI i))]) hx hb dX4_digest_248 rfl hl (by decide) rfl (fun ls hl => ?_)
                  refine lv_iinc (k := 2) (v := (nI (i + 1))) (lv' := [(3, .int (nI (i + 1))), (1, .long ((31 * (hfS (tuS5 (us (R 0))) (mdG (R 0) (I 1)) i)) + (Int32.toInt64 (tuS5 (us (R 0)) i)))), (0, .ref (ad 0))]) hx hb dX4_digest_249 hl rfl (nI_add i 1) (by decide) rfl (fun ls hl => ?_)
                  refine lv_goto (tgt := 228) hx hb dX4_digest_252 (by decide) ?_
                  exact ih_228 (i + 1) _ _ _ (by omega) (by omega) hP hS (lv_sub hl [2, 1, 0] rfl)
            · have c_73 : ¬ (8 ≤ i) := fun h => c_73 ((nI_leI (a := 8) (b := i) (by omega) (by omega)).mpr h)
              refine lv_ldc2 (v := 31) hx hb hown (hts (.constantLong RX4 145 (31)) (by decide +kernel)) dX4_digest_76 ?_
              refine lv_ldc2 (v := 31) hx hb hown (hts (.constantLong RX4 145 (31)) (by decide +kernel)) dX4_digest_79 ?_
              refine lv_lload_n hx hb dX4_digest_82 rfl (lv_at hl 1 rfl) ?_
              refine lv_lmul hx hb dX4_digest_83 ?_
              refine lv_aload_n hx hb dX4_digest_84 rfl (lv_at hl 0 rfl) ?_
              refine lv_iload_n hx hb dX4_digest_85 rfl (lv_at hl 2 rfl) ?_
              refine cx_ri (va_runV (As := [.int (nI i)]) (rest := [.long (31 * (hpS (us (R 0)) (pnF (qz (R 0)) (us (R 0))) (mdB (R 0) (I 1)) i)), .long (31)]) ⟨hx, hb, hml, hown, hts⟩ (c_X4_traceAt l D T ad (upd I 0 0) R i (by omega)) (cwV 1 hts gX4_digest_X4_traceAt rfl rfl rfl (by decide +kernel) ⟨Nat.le_of_ble_eq_true rfl, Nat.le_of_ble_eq_true rfl⟩) ⟨MR.blind, va_recv hK hP (ci := 4) (q0 := 0) rfl mw_0, (MR.pre hP hK rfl)⟩ rfl rfl hl.1 rfl (lv_room (Nat.le_of_ble_eq_true rfl)) dX4_digest_86 ⟨Nat.le_of_ble_eq_true rfl, Nat.le_of_ble_eq_true rfl⟩) hS hP (fun H locs hP hS => ?_)
              refine lv_i2l hx hb dX4_digest_89 rfl ?_
              refine lv_ladd hx hb dX4_digest_90 ?_
              refine lv_lmul hx hb dX4_digest_91 ?_
              refine lv_aload_n hx hb dX4_digest_92 rfl (lv_at hl 0 rfl) ?_
              refine lv_iload_n hx hb dX4_digest_93 rfl (lv_at hl 2 rfl) ?_
              refine cx_ri (va_runV (As := [.int (nI i)]) (rest := [.long (31 * ((31 * (hpS (us (R 0)) (pnF (qz (R 0)) (us (R 0))) (mdB (R 0) (I 1)) i)) + (Int32.toInt64 (trS (us ((R 0))) i 8))))]) ⟨hx, hb, hml, hown, hts⟩ (c_X4_traceAt l D T ad (upd I 0 0) R i (by omega)) (cwV 1 hts gX4_digest_X4_traceAt rfl rfl rfl (by decide +kernel) ⟨Nat.le_of_ble_eq_true rfl, Nat.le_of_ble_eq_true rfl⟩) ⟨MR.blind, va_recv hK hP (ci := 4) (q0 := 0) rfl mw_0, (MR.pre hP hK rfl)⟩ rfl rfl hl.1 rfl (lv_room (Nat.le_of_ble_eq_true rfl)) dX4_digest_94 ⟨Nat.le_of_ble_eq_true rfl, Nat.le_of_ble_eq_true rfl⟩) hS hP (fun H locs hP hS => ?_)
              refine lv_i2l hx hb dX4_digest_97 rfl ?_
              refine lv_ladd hx hb dX4_digest_98 ?_
              refine lv_lstore_n (lv' := [(1, .long ((31 * ((31 * (hpS (us (R 0)) (pnF (qz (R 0)) (us (R 0))) (mdB (R 0) (I 1)) i)) + (Int32.toInt64 (trS (us ((R 0))) i 8)))) + (Int32.toInt64 (trS (us ((R 0))) i 8)))), (0, .ref (ad 0)), (3, .int (nI i))]) hx hb dX4_digest_99 rfl hl (by decide) rfl (fun ls hl => ?_)
              refine lv_iconst (v := 0) hx hb dX4_digest_100 (by decide) ?_
              refine lv_istore (lv' := [(4, .int 0), (1, .long ((31 * ((31 * (hpS (us (R 0)) (pnF (qz (R 0)) (us (R 0))) (mdB (R 0) (I 1)) i)) + (Int32.toInt64 (trS (us ((R 0))) i 8)))) + (Int32.toInt64 (trS (us ((R 0))) i 8)))), (0, .ref (ad 0)), (3, .int (nI i))]) hx hb dX4_digest_101 hl (by decide) rfl (fun ls hl => ?_)
              suffices ih_103 : ∀ (fu : Nat) (j : Nat) (H : Heap) (locs : List Loc) (ls : Array Slot), 3 - j < fu → (j ≤ 3) → va_P D vwCl (mw T ad (upd I 0 0) R) H →  va_S (cA 7 ad s.heap.size) s.heap H locs → lv_has ls 5 [(0, .ref (ad 0)), (1, .long (hfS ((pnF (qz (R 0)) (us (R 0))) i) (hs (hs (hpS (us (R 0)) (pnF (qz (R 0)) (us (R 0))) (mdB (R 0) (I 1)) i) (Int32.toInt64 (trS (us (R 0)) i 8))) (Int32.toInt64 (trS (us (R 0)) i 8))) j)), (3, .int (nI i)), (4, .int (nI j))] → W p l e (headSpec wsX4_digest ({ frames := 6, cells := 0, slots := 0, locals := 133 })).room s m ([.ref (ad 0)] : List Value).toArray below meth c H locs 0 0 (MQ below (va_Ql (fun r (o : Nat → Int32) => r = (mdF (R 0) (I 1) (R 3) len (R 4)) ∧ True) (fun (o : Nat → Int32) t => va_P D vwCl (mw T ad (upd I 0 0) (updR R 5 o)) t.heap) (cA 7 ad s.heap.size)) ([.ref (ad 0)] : List Value).toArray s 0 0 (cA 7 ad s.heap.size)) (F0 m 103 ls []) from
                ih_103 _ 0 _ _ _ (Nat.lt_succ_self _) (by omega) hP hS (lv_sub hl [2, 1, 3, 0] rfl)
              intro fu
              induction fu with
              | zero => intro j H locs ls hfu; exact absurd hfu (Nat.not_lt_zero _)
              | succ fu ih_103 =>
                intro j H locs ls hfu hj hP hS hl
                refine lv_iload hx hb dX4_digest_103 (lv_at hl 3 rfl) ?_
                refine lv_iconst (v := 3) hx hb dX4_digest_105 (by decide) ?_
                refine lv_icmp_ge (tgt := 130) hx hb dX4_digest_106 (by decide) (fun c_106 => ?_) (fun c_106 => ?_)
                · have c_106 : 3 ≤ j := (nI_leI (a := 3) (b := j) (by omega) (by omega)).mp c_106
                  obtain rfl : j = 3 := by omega
                  refine lv_iinc (k := 2) (v := (nI (i + 1))) (lv' := [(3, .int (nI (i + 1))), (0, .ref (ad 0)), (1, .long (hfS ((pnF (qz (R 0)) (us (R 0))) i) (hs (hs (hpS (us (R 0)) (pnF (qz (R 0)) (us (R 0))) (mdB (R 0) (I 1)) i) (Int32.toInt64 (trS (us (R 0)) i 8))) (Int32.toInt64 (trS (us (R 0)) i 8))) 3)), (4, .int (nI 3))]) hx hb dX4_digest_130 hl rfl (nI_add i 1) (by decide) rfl (fun ls hl => ?_)
                  refine lv_goto (tgt := 70) hx hb dX4_digest_133 (by decide) ?_
                  exact ih_70 (i + 1) _ _ _ (by omega) (by omega) hP hS (lv_sub hl [1, 2, 0] rfl)
                · have c_106 : ¬ (3 ≤ j) := fun h => c_106 ((nI_leI (a := 3) (b := j) (by omega) (by omega)).mpr h)
                  refine lv_ldc2 (v := 31) hx hb hown (hts (.constantLong RX4 145 (31)) (by decide +kernel)) dX4_digest_109 ?_
                  refine lv_lload_n hx hb dX4_digest_112 rfl (lv_at hl 1 rfl) ?_
                  refine lv_lmul hx hb dX4_digest_113 ?_
                  refine lv_aload_n hx hb dX4_digest_114 rfl (lv_at hl 0 rfl) ?_
                  refine lv_iload_n hx hb dX4_digest_115 rfl (lv_at hl 2 rfl) ?_
                  refine lv_iload hx hb dX4_digest_116 (lv_at hl 3 rfl) ?_
                  refine cx_ri (va_runV (As := [.int (nI i), .int (nI j)]) (rest := [.long (31 * (hfS ((pnF (qz (R 0)) (us (R 0))) i) (hs (hs (hpS (us (R 0)) (pnF (qz (R 0)) (us (R 0))) (mdB (R 0) (I 1)) i) (Int32.toInt64 (trS (us (R 0)) i 8))) (Int32.toInt64 (trS (us (R 0)) i 8))) j))]) ⟨hx, hb, hml, hown, hts⟩ (c_X4_pointNow l D T ad (upd I 0 0) R i j (by omega) (by omega)) (cwV 2 hts gX4_digest_X4_pointNow rfl rfl rfl (by decide +kernel) ⟨Nat.le_of_ble_eq_true rfl, Nat.le_of_ble_eq_true rfl⟩) ⟨MR.blind, va_recv hK hP (ci := 4) (q0 := 0) rfl mw_0, (MR.pre hP hK rfl)⟩ rfl rfl hl.1 rfl (lv_room (Nat.le_of_ble_eq_true rfl)) dX4_digest_118 ⟨Nat.le_of_ble_eq_true rfl, Nat.le_of_ble_eq_true rfl⟩) hS hP (fun H locs hP hS => ?_)
                  refine lv_i2l hx hb dX4_digest_121 rfl ?_
                  refine lv_ladd hx hb dX4_digest_122 ?_
                  refine lv_lstore_n (lv' := [(1, .long ((31 * (hfS ((pnF (qz (R 0)) (us (R 0))) i) (hs (hs (hpS (us (R 0)) (pnF (qz (R 0)) (us (R 0))) (mdB (R 0) (I 1)) i) (Int32.toInt64 (trS (us (R 0)) i 8))) (Int32.toInt64 (trS (us (R 0)) i 8))) j)) + (Int32.toInt64 (pnF (qz ((R 0))) (us ((R 0))) i j)))), (0, .ref (ad 0)), (3, .int (nI i)), (4, .int (nI j))]) hx hb dX4_digest_123 rfl hl (by decide) rfl (fun ls hl => ?_)
                  refine lv_iinc (k := 3) (v := (nI (j + 1))) (lv' := [(4, .int (nI (j + 1))), (1, .long ((31 * (hfS ((pnF (qz (R 0)) (us (R 0))) i) (hs (hs (hpS (us (R 0)) (pnF (qz (R 0)) (us (R 0))) (mdB (R 0) (I 1)) i) (Int32.toInt64 (trS (us (R 0)) i 8))) (Int32.toInt64 (trS (us (R 0)) i 8))) j)) + (Int32.toInt64 (pnF (qz ((R 0))) (us ((R 0))) i j)))), (0, .ref (ad 0)), (3, .int (nI i))]) hx hb dX4_digest_124 hl rfl (nI_add j 1) (by decide) rfl (fun ls hl => ?_)
                  refine lv_goto (tgt := 103) hx hb dX4_digest_127 (by decide) ?_
                  exact ih_103 (j + 1) _ _ _ (by omega) (by omega) hP hS (lv_sub hl [2, 1, 3, 0] rfl)
        · have c_41 : ¬ (32 ≤ i) := fun h => c_41 ((nI_leI (a := 32) (b := i) (by omega) (by omega)).mpr h)
          refine lv_ldc2 (v := 31) hx hb hown (hts (.constantLong RX4 145 (31)) (by decide +kernel)) dX4_digest_44 ?_
          refine lv_lload_n hx hb dX4_digest_47 rfl (lv_at hl 1 rfl) ?_
          refine lv_lmul hx hb dX4_digest_48 ?_
          refine lv_aload_n hx hb dX4_digest_49 rfl (lv_at hl 0 rfl) ?_
          refine lv_iload_n hx hb dX4_digest_50 rfl (lv_at hl 2 rfl) ?_
          refine lv_iconst (v := 4) hx hb dX4_digest_51 (by decide) ?_
          refine lv_idiv hx hb dX4_digest_52 (by decide) ?_
          refine cx_top (pk_div (a := i) (d := 4) (by omega) (by decide) (by decide)) ?_
          refine lv_iload_n hx hb dX4_digest_53 rfl (lv_at hl 2 rfl) ?_
          refine lv_iconst (v := 4) hx hb dX4_digest_54 (by decide) ?_
          refine lv_irem hx hb dX4_digest_55 (by decide) ?_
          refine cx_top (pk_rem (a := i) (d := 4) (by omega) (by decide) (by decide)) ?_
          refine cx_ri (va_runV (As := [.int (nI (i / 4)), .int (nI (i % 4))]) (rest := [.long (31 * (hfS (wn4 (R 0)) (mdA (R 0) (I 1)) i))]) ⟨hx, hb, hml, hown, hts⟩ (c_X4_wheelNow l D T ad (upd I 0 0) R (i / 4) (i % 4) (by omega) (by omega)) (cwV 2 hts gX4_digest_X4_wheelNow rfl rfl rfl (by decide +kernel) ⟨Nat.le_of_ble_eq_true rfl, Nat.le_of_ble_eq_true rfl⟩) ⟨MR.blind, va_recv hK hP (ci := 4) (q0 := 0) rfl mw_0, (MR.pre hP hK rfl)⟩ rfl rfl hl.1 rfl (lv_room (Nat.le_of_ble_eq_true rfl)) dX4_digest_56 ⟨Nat.le_of_ble_eq_true rfl, Nat.le_of_ble_eq_true rfl⟩) hS hP (fun H locs hP hS => ?_)
          refine cx_top (show (wnM ((R 0)) (i / 4) (i % 4)) = (wn4 (R 0) i) from rfl) ?_
          refine lv_i2l hx hb dX4_digest_59 rfl ?_
          refine lv_ladd hx hb dX4_digest_60 ?_
          refine lv_lstore_n (lv' := [(1, .long ((31 * (hfS (wn4 (R 0)) (mdA (R 0) (I 1)) i)) + (Int32.toInt64 (wn4 (R 0) i)))), (0, .ref (ad 0)), (3, .int (nI i))]) hx hb dX4_digest_61 rfl hl (by decide) rfl (fun ls hl => ?_)
          refine lv_iinc (k := 2) (v := (nI (i + 1))) (lv' := [(3, .int (nI (i + 1))), (1, .long ((31 * (hfS (wn4 (R 0)) (mdA (R 0) (I 1)) i)) + (Int32.toInt64 (wn4 (R 0) i)))), (0, .ref (ad 0))]) hx hb dX4_digest_62 hl rfl (nI_add i 1) (by decide) rfl (fun ls hl => ?_)
          refine lv_goto (tgt := 38) hx hb dX4_digest_65 (by decide) ?_
          exact ih_38 (i + 1) _ _ _ (by omega) (by omega) hP hS (lv_sub hl [2, 1, 0] rfl)
    · have c_14 : ¬ (9 ≤ w) := fun h => c_14 ((nI_leI (a := 9) (b := w) (by omega) (by omega)).mpr h)
      refine lv_ldc2 (v := 31) hx hb hown (hts (.constantLong RX4 145 (31)) (by decide +kernel)) dX4_digest_17 ?_
      refine lv_lload_n hx hb dX4_digest_20 rfl (lv_at hl 1 rfl) ?_
      refine lv_lmul hx hb dX4_digest_21 ?_
      refine lv_aload_n hx hb dX4_digest_22 rfl (lv_at hl 0 rfl) ?_
      refine lv_iload_n hx hb dX4_digest_23 rfl (lv_at hl 2 rfl) ?_
      refine cx_ri (va_runV (As := [.int (nI w)]) (rest := [.long (31 * (hcS (cnM (R 0) (I 1)) w))]) ⟨hx, hb, hml, hown, hts⟩ (c_X4_countNow l D T ad (upd I 0 0) R w (by omega)) (cwV 1 hts gX4_digest_X4_countNow rfl rfl rfl (by decide +kernel) ⟨Nat.le_of_ble_eq_true rfl, Nat.le_of_ble_eq_true rfl⟩) ⟨MR.blind, va_recv hK hP (ci := 4) (q0 := 0) rfl mw_0, (MR.pre hP hK rfl)⟩ rfl rfl hl.1 rfl (lv_room (Nat.le_of_ble_eq_true rfl)) dX4_digest_24 ⟨Nat.le_of_ble_eq_true rfl, Nat.le_of_ble_eq_true rfl⟩) hS hP (fun H locs hP hS => ?_)
      refine lv_i2l hx hb dX4_digest_27 rfl ?_
      refine lv_ladd hx hb dX4_digest_28 ?_
      refine lv_lstore_n (lv' := [(1, .long ((31 * (hcS (cnM (R 0) (I 1)) w)) + (Int32.toInt64 (cnM ((R 0)) ((I 1)) w)))), (0, .ref (ad 0)), (3, .int (nI w))]) hx hb dX4_digest_29 rfl hl (by decide) rfl (fun ls hl => ?_)
      refine lv_iinc (k := 2) (v := (nI (w + 1))) (lv' := [(3, .int (nI (w + 1))), (1, .long ((31 * (hcS (cnM (R 0) (I 1)) w)) + (Int32.toInt64 (cnM ((R 0)) ((I 1)) w)))), (0, .ref (ad 0))]) hx hb dX4_digest_30 hl rfl (nI_add w 1) (by decide) rfl (fun ls hl => ?_)
      refine lv_goto (tgt := 11) hx hb dX4_digest_33 (by decide) ?_
      exact ih_11 (w + 1) _ _ _ (by omega) (by omega) hP hS (lv_sub hl [2, 1, 0] rfl)

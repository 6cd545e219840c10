set_option maxHeartbeats 4000000 in
set_option maxRecDepth 100000 in
theorem lw_step {p : Program} {l : Launch} {e : Env} {s : State} {m : MethodId} {args : Array Value} {below : List Frame} {meth : Method} {c : Code} {Q : State → Prop} {D : va_G} {T : Nat → ClassId} {ad : Nat → Nat} {b : Addr} {L : Nat} {xs : Nat → Int32} (C0 : LwF p l s m c args D T ad b L xs) {i : Nat} (hi : i ≤ 60) {H : Heap} {locs : List Loc} {ls : Array Slot} {cells slots : Nat} (J : LJ D T ad H) (hS : va_S (LwA s) s.heap H locs) (hl : lv_has ls 11 (lwLv b ad i)) (hc : cells ≤ 1000 + 10 * i) (hs : slots ≤ 9000 + 70 * i)
    (kE : ∀ (H : Heap) (locs : List Loc) (ls : Array Slot) (cells slots : Nat), LJ D T ad H → va_S (LwA s) s.heap H locs → lv_has ls 11 (lwLv b ad 60) → cells ≤ 1600 → slots ≤ 13200 → W p l e room_1 s m args below meth c H locs cells slots Q (F0 m 247 ls []))
    (kL : ∀ (H : Heap) (locs : List Loc) (ls : Array Slot) (cells slots : Nat), i < 60 → LJ D T ad H → va_S (LwA s) s.heap H locs → lv_has ls 11 (lwLv b ad (i + 1)) → cells ≤ 1000 + 10 * (i + 1) → slots ≤ 9000 + 70 * (i + 1) → W p l e room_1 s m args below meth c H locs cells slots Q (F0 m 87 ls [])) : W p l e room_1 s m args below meth c H locs cells slots Q (F0 m 87 ls []) := by
  obtain ⟨hx, hb, hml, hown, hts, hK, hN, hXU, hXZ, hNc, hAD, hge, hX, hbl, hlt, hL⟩ := C0
  have hbA : ¬ LwA s b := Nat.not_le.mpr hbl
  refine lv_iload hx hb dL_law_87 (lv_at hl 7 rfl) ?_
  refine lv_bipush (v := 60) hx hb dL_law_89 (by decide) ?_
  refine lv_icmp_ge (tgt := 247) hx hb dL_law_91 (by decide) (fun h => ?_) (fun h => ?_)
  · have h2 : 60 ≤ i := (nI_leI (a := 60) (b := i) (by omega) (by omega)).mp h
    obtain rfl : i = 60 := by omega
    exact kE H locs ls cells slots J hS hl (by omega) (by omega)
  have hi6 : i < 60 := Nat.not_le.mp (fun h2 => h ((nI_leI (a := 60) (b := i) (by omega) (by omega)).mpr h2))
  clear h kE
  obtain ⟨I, R, lm, nx, ct, hP, hJ, ht⟩ := J
  obtain ⟨hm, hI, hnx, hct, hI1, hI2, h0, h1, hb1, h5, hbd, hbp⟩ : lm < 256 ∧ I 4 = nI lm ∧ nx < 6 ∧ ct ≤ 6 ∧ I 1 = nI nx ∧ I 2 = nI ct ∧ R 0 = R 20 ∧ R 1 = R 22 ∧ R 21 = lbI lm ∧ I 5 = R 24 0 ∧ BdA (R 20) ∧ BdP (R 22) := id hJ
  refine lv_aload_n hx hb dL_law_94 rfl (lv_at hl 0 rfl) ?_
  refine lv_iconst (v := 2) hx hb dL_law_95 (by decide) ?_
  refine lv_iload hx hb dL_law_96 (lv_at hl 7 rfl) ?_
  refine lv_imul hx hb dL_law_98 ?_
  refine cx_top (pk_mul 2 i) ?_
  refine cx_ri (va_runS (As := [.ref b, .int (nI (2 * i))]) (rest := []) ⟨hx, hb, hml, hown, hts⟩ (c_L_cell l b L xs (2 * i) (by omega) hL) (va_cwS 2 hts gL_law_L_cell rfl rfl rfl (by decide +kernel) ⟨Nat.le_of_ble_eq_true rfl, Nat.le_of_ble_eq_true rfl⟩) ⟨SX.blind, SX.pre hX hbl hbA hS rfl⟩ rfl rfl hl.1 rfl (lv_room (Nat.le_of_ble_eq_true rfl)) dL_law_99 ⟨show _ + 0 ≤ 647074 by omega, show _ + 0 ≤ 7159959 by omega⟩) hS hP (fun H locs hP hS => ?_)
  obtain ⟨x, ex⟩ : ∃ z, ceF L xs (2 * i) = z := ⟨_, rfl⟩
  rw [ex]
  refine lv_istore (lv' := [(8, .int x), (0, .ref b), (1, .ref (ad 0)), (2, .ref (ad 34)), (3, .ref (ad 35)), (4, .ref (ad 36)), (5, .ref (ad 37)), (6, .ref (ad 38)), (7, .int (nI i))]) hx hb dL_law_102 hl (by decide) rfl (fun ls hl => ?_)
  refine lv_aload_n hx hb dL_law_104 rfl (lv_at hl 1 rfl) ?_
  refine lv_iconst (v := 2) hx hb dL_law_105 (by decide) ?_
  refine lv_iload hx hb dL_law_106 (lv_at hl 8 rfl) ?_
  refine lv_imul hx hb dL_law_108 ?_
  refine cx_top (pk_mul 2 i) ?_
  refine lv_iconst (v := 1) hx hb dL_law_109 (by decide) ?_
  refine lv_iadd hx hb dL_law_110 ?_
  refine cx_top (nI_add (2 * i) 1) ?_
  refine cx_ri (va_runS (As := [.ref b, .int (nI (2 * i + 1))]) (rest := []) ⟨hx, hb, hml, hown, hts⟩ (c_L_cell l b L xs (2 * i + 1) (by omega) hL) (va_cwS 2 hts gL_law_L_cell rfl rfl rfl (by decide +kernel) ⟨Nat.le_of_ble_eq_true rfl, Nat.le_of_ble_eq_true rfl⟩) ⟨SX.blind, SX.pre hX hbl hbA hS rfl⟩ rfl rfl hl.1 rfl (lv_room (Nat.le_of_ble_eq_true rfl)) dL_law_111 ⟨show _ + 0 ≤ 647074 by omega, show _ + 0 ≤ 7159959 by omega⟩) hS hP (fun H locs hP hS => ?_)
  obtain ⟨y, ey⟩ : ∃ z, ceF L xs (2 * i + 1) = z := ⟨_, rfl⟩
  rw [ey]
  refine lv_istore (lv' := [(9, .int y), (8, .int x), (0, .ref b), (1, .ref (ad 0)), (2, .ref (ad 34)), (3, .ref (ad 35)), (4, .ref (ad 36)), (5, .ref (ad 37)), (6, .ref (ad 38)), (7, .int (nI i))]) hx hb dL_law_114 hl (by decide) rfl (fun ls hl => ?_)
  refine lv_aload_n hx hb dL_law_116 rfl (lv_at hl 3 rfl) ?_
  refine lv_iload hx hb dL_law_117 (lv_at hl 9 rfl) ?_
  refine lv_iconst (v := 5) hx hb dL_law_119 (by decide) ?_
  have kA : ∀ (x2 : Int32), W p l e room_1 s m args below meth c H locs (cells) (slots) Q (F0 m 129 ls [.int x2, .ref (ad 0)]) := fun x2 => by
    refine lv_iload hx hb dL_law_129 (lv_at hl 0 rfl) ?_
    refine lv_aload_n hx hb dL_law_131 rfl (lv_at hl 4 rfl) ?_
    refine lv_aload_n hx hb dL_law_132 rfl (lv_at hl 5 rfl) ?_
    refine lv_aload hx hb dL_law_133 (lv_at hl 6 rfl) ?_
    refine lv_aload hx hb dL_law_135 (lv_at hl 7 rfl) ?_
    refine lv_aload hx hb dL_law_137 (lv_at hl 8 rfl) ?_
    refine cx_wi (va_runS (As := [.ref (ad 0), .int x2, .int y, .ref (ad 34), .ref (ad 35), .ref (ad 36), .ref (ad 37), .ref (ad 38)]) (rest := []) ⟨hx, hb, hml, hown, hts⟩ (c_L_act l D T ad I R _ lm nx ct x2 y hAD hm hI h0 h1 hb1 hbd hbp ht hnx hct hI1 hI2 h5 hlt) (va_cwS 8 hts gL_law_L_act rfl rfl rfl (by decide +kernel) ⟨Nat.le_of_ble_eq_true rfl, Nat.le_of_ble_eq_true rfl⟩) ⟨PB.blind, PB.pre hP hK hN hXU hXZ hNc hS (cA_sub (fun j hj => hge j hj) (fun q hq => Nat.le_trans hS.1 hq)) rfl⟩ rfl rfl hl.1 rfl (lv_room (Nat.le_of_ble_eq_true rfl)) dL_law_139 ⟨show _ + 3 ≤ 647074 by omega, show _ + 18 ≤ 7159959 by omega⟩) hS (cA_sub (fun j hj => hge j hj) (fun q hq => Nat.le_trans hS.1 hq)) (cA_sub (fun j hj => hge j hj) (fun q hq => Nat.le_trans hS.1 hq)) (fun u H locs hu hP hkk hS => ?_)
    obtain ⟨cells1, hc1⟩ : ∃ z, cells + 3 = z := ⟨_, rfl⟩
    obtain ⟨slots1, hs1⟩ : ∃ z, slots + 18 = z := ⟨_, rfl⟩
    rw [hc1, hs1]
    obtain ⟨I, R, lm, nx, ct⟩ := u
    have hJ : JL lm nx ct I R := hu
    have hP : va_P D vwCl (pw T ad I R) H := hP
    clear hu hkk
    obtain ⟨hm, hI, hnx, hct, hI1, hI2, h0, h1, hb1, h5, hbd, hbp⟩ : lm < 256 ∧ I 4 = nI lm ∧ nx < 6 ∧ ct ≤ 6 ∧ I 1 = nI nx ∧ I 2 = nI ct ∧ R 0 = R 20 ∧ R 1 = R 22 ∧ R 21 = lbI lm ∧ I 5 = R 24 0 ∧ BdA (R 20) ∧ BdP (R 22) := id hJ
    refine lv_istore (lv' := [(10, .int 1), (9, .int y), (8, .int x), (0, .ref b), (1, .ref (ad 0)), (2, .ref (ad 34)), (3, .ref (ad 35)), (4, .ref (ad 36)), (5, .ref (ad 37)), (6, .ref (ad 38)), (7, .int (nI i))]) hx hb dL_law_142 hl (by decide) rfl (fun ls hl => ?_)
    refine lv_aload_n hx hb dL_law_144 rfl (lv_at hl 5 rfl) ?_
    refine lv_aload_n hx hb dL_law_145 rfl (lv_at hl 6 rfl) ?_
    refine lv_aload hx hb dL_law_146 (lv_at hl 8 rfl) ?_
    refine cx_wv (va_runS (As := [.ref (ad 34), .ref (ad 35), .ref (ad 37)]) (rest := []) ⟨hx, hb, hml, hown, hts⟩ (c_L_draw l D T ad I R _ lm hAD hb1) (va_cwS 3 hts gL_law_L_draw rfl rfl rfl (by decide +kernel) ⟨Nat.le_of_ble_eq_true rfl, Nat.le_of_ble_eq_true rfl⟩) ⟨PB.blind, PB.pre hP hK hN hXU hXZ hNc hS (cA_sub (fun j hj => hge j hj) (fun q hq => Nat.le_trans hS.1 hq)) rfl⟩ rfl rfl hl.1 rfl (lv_room (Nat.le_of_ble_eq_true rfl)) dL_law_148 ⟨show _ + 0 ≤ 647074 by omega, show _ + 0 ≤ 7159959 by omega⟩) hS (cA_sub (fun j hj => hge j hj) (fun q hq => Nat.le_trans hS.1 hq)) (cA_sub (fun j hj => hge j hj) (fun q hq => Nat.le_trans hS.1 hq)) (fun _ H locs _ hP hkk hS => ?_)
    obtain ⟨cells2, hc2⟩ : ∃ z, cells1 + 0 = z := ⟨_, rfl⟩
    obtain ⟨slots2, hs2⟩ : ∃ z, slots1 + 0 = z := ⟨_, rfl⟩
    rw [hc2, hs2]
    obtain ⟨R, eR2⟩ : ∃ z, updR R 23 (fun n => trS (dr (R 20) lm) n 8) = z := ⟨_, rfl⟩
    have ht : R 23 = fun n => trS (dr (R 20) lm) n 8 := by rw [← eR2]; exact ht_23
    have hJ : JL lm nx ct I R := by rw [← eR2]; exact jl_up (Or.inr rfl) hJ
    have hP : va_P D vwCl (pw T ad I R) H := by rw [← eR2]; exact hP
    clear eR2 hm hI hnx hct hI1 hI2 h0 h1 hb1 h5 hbd hbp hkk
    obtain ⟨hm, hI, hnx, hct, hI1, hI2, h0, h1, hb1, h5, hbd, hbp⟩ : lm < 256 ∧ I 4 = nI lm ∧ nx < 6 ∧ ct ≤ 6 ∧ I 1 = nI nx ∧ I 2 = nI ct ∧ R 0 = R 20 ∧ R 1 = R 22 ∧ R 21 = lbI lm ∧ I 5 = R 24 0 ∧ BdA (R 20) ∧ BdP (R 22) := id hJ
    refine lv_iload hx hb dL_law_151 (lv_at hl 0 rfl) ?_
    refine lv_if_eq (tgt := 239) hx hb dL_law_153 (by decide) (fun h => absurd h (by decide)) (fun _ => ?_)
    refine lv_aload_n hx hb dL_law_156 rfl (lv_at hl 4 rfl) ?_
    refine lv_aload_n hx hb dL_law_157 rfl (lv_at hl 5 rfl) ?_
    refine lv_aload_n hx hb dL_law_158 rfl (lv_at hl 6 rfl) ?_
    refine lv_aload hx hb dL_law_159 (lv_at hl 7 rfl) ?_
    refine cx_wi (va_runS (As := [.ref (ad 0), .ref (ad 34), .ref (ad 35), .ref (ad 36)]) (rest := []) ⟨hx, hb, hml, hown, hts⟩ (c_L_areWheels l D T ad I R _ lm hAD hm hI h0 h1 hb1 hbd hbp) (va_cwS 4 hts gL_law_L_areWheels rfl rfl rfl (by decide +kernel) ⟨Nat.le_of_ble_eq_true rfl, Nat.le_of_ble_eq_true rfl⟩) ⟨PB.blind, PB.pre hP hK hN hXU hXZ hNc hS (cA_sub (fun j hj => hge j hj) (fun q hq => Nat.le_trans hS.1 hq)) rfl⟩ rfl rfl hl.1 rfl (lv_room (Nat.le_of_ble_eq_true rfl)) dL_law_161 ⟨show _ + 1 ≤ 647074 by omega, show _ + 8 ≤ 7159959 by omega⟩) hS (cA_sub (fun j hj => hge j hj) (fun q hq => Nat.le_trans hS.1 hq)) (cA_sub (fun j hj => hge j hj) (fun q hq => Nat.le_trans hS.1 hq)) (fun _ H locs _ hP hkk hS => ?_)
    obtain ⟨cells3, hc3⟩ : ∃ z, cells2 + 1 = z := ⟨_, rfl⟩
    obtain ⟨slots3, hs3⟩ : ∃ z, slots2 + 8 = z := ⟨_, rfl⟩
    rw [hc3, hs3]
    clear hkk
    refine lv_if_eq (tgt := 239) hx hb dL_law_164 (by decide) (fun h => absurd h (by decide)) (fun _ => ?_)
    refine lv_aload_n hx hb dL_law_167 rfl (lv_at hl 4 rfl) ?_
    refine lv_aload_n hx hb dL_law_168 rfl (lv_at hl 5 rfl) ?_
    refine lv_aload_n hx hb dL_law_169 rfl (lv_at hl 6 rfl) ?_
    refine lv_aload hx hb dL_law_170 (lv_at hl 7 rfl) ?_
    refine lv_aload hx hb dL_law_172 (lv_at hl 8 rfl) ?_
    refine cx_wi (va_runS (As := [.ref (ad 0), .ref (ad 34), .ref (ad 35), .ref (ad 36), .ref (ad 37)]) (rest := []) ⟨hx, hb, hml, hown, hts⟩ (c_L_arePoints l D T ad I R _ lm hAD hm hI h0 h1 hb1 hbd hbp ht) (va_cwS 5 hts gL_law_L_arePoints rfl rfl rfl (by decide +kernel) ⟨Nat.le_of_ble_eq_true rfl, Nat.le_of_ble_eq_true rfl⟩) ⟨PB.blind, PB.pre hP hK hN hXU hXZ hNc hS (cA_sub (fun j hj => hge j hj) (fun q hq => Nat.le_trans hS.1 hq)) rfl⟩ rfl rfl hl.1 rfl (lv_room (Nat.le_of_ble_eq_true rfl)) dL_law_174 ⟨show _ + 1 ≤ 647074 by omega, show _ + 8 ≤ 7159959 by omega⟩) hS (cA_sub (fun j hj => hge j hj) (fun q hq => Nat.le_trans hS.1 hq)) (cA_sub (fun j hj => hge j hj) (fun q hq => Nat.le_trans hS.1 hq)) (fun u H locs _ hP hkk hS => ?_)
    obtain ⟨cells4, hc4⟩ : ∃ z, cells3 + 1 = z := ⟨_, rfl⟩
    obtain ⟨slots4, hs4⟩ : ∃ z, slots3 + 8 = z := ⟨_, rfl⟩
    rw [hc4, hs4]
    obtain ⟨R, eR2⟩ : ∃ z, updR R 19 u = z := ⟨_, rfl⟩
    have ht : R 23 = fun n => trS (dr (R 20) lm) n 8 := by rw [← eR2]; exact ht_19 ht
    have hJ : JL lm nx ct I R := by rw [← eR2]; exact jl_up (Or.inl rfl) hJ
    have hP : va_P D vwCl (pw T ad I R) H := by rw [← eR2]; exact hP
    clear eR2 hm hI hnx hct hI1 hI2 h0 h1 hb1 h5 hbd hbp hkk
    obtain ⟨hm, hI, hnx, hct, hI1, hI2, h0, h1, hb1, h5, hbd, hbp⟩ : lm < 256 ∧ I 4 = nI lm ∧ nx < 6 ∧ ct ≤ 6 ∧ I 1 = nI nx ∧ I 2 = nI ct ∧ R 0 = R 20 ∧ R 1 = R 22 ∧ R 21 = lbI lm ∧ I 5 = R 24 0 ∧ BdA (R 20) ∧ BdP (R 22) := id hJ
    refine lv_if_eq (tgt := 239) hx hb dL_law_177 (by decide) (fun h => absurd h (by decide)) (fun _ => ?_)
    refine lv_aload_n hx hb dL_law_180 rfl (lv_at hl 4 rfl) ?_
    refine lv_bipush (v := 7) hx hb dL_law_181 (by decide) ?_
    refine cx_ri (va_runV (As := [.int 7]) (rest := []) ⟨hx, hb, hml, hown, hts⟩ (c_X3_count l D T ad I R lm 7 hm hI (by decide)) (cwV 1 hts gL_law_X3_count rfl rfl rfl (by decide +kernel) ⟨Nat.le_of_ble_eq_true rfl, Nat.le_of_ble_eq_true rfl⟩) ⟨CR.blind, va_recv hK hP (ci := 3) (q0 := 0) rfl pw_0, CR.pre (pw_c hP) hK hN rfl⟩ rfl rfl hl.1 rfl (lv_room (Nat.le_of_ble_eq_true rfl)) dL_law_183 ⟨show _ + 0 ≤ 647074 by omega, show _ + 0 ≤ 7159959 by omega⟩) hS hP (fun H locs hP hS => ?_)
    refine cx_top (y := R 24 0) (cn7.trans h5) ?_
    refine lv_aload hx hb dL_law_186 (lv_at hl 9 rfl) ?_
    refine lv_iconst (v := 0) hx hb dL_law_188 (by decide) ?_
    refine cx_iald (k := 0) hx hb hK hP 38 1 pw_38 rfl (by decide) (by decide) dL_law_189 ?_
    refine lv_icmp_ne (tgt := 239) hx hb dL_law_190 (by decide) (fun h => absurd rfl h) (fun _ => ?_)
    have kN : ∀ (H : Heap) (locs : List Loc) (cells9 slots9 : Nat), LJ D T ad H → va_S (LwA s) s.heap H locs → cells9 ≤ cells4 + 5 → slots9 ≤ slots4 + 30 → W p l e room_1 s m args below meth c H locs cells9 slots9 Q (F0 m 241 ls []) := fun H locs cells9 slots9 J hS h3 h4 => by
      refine lv_iinc (k := 10) (v := nI (i + 1)) (lv' := [(7, .int (nI (i + 1))), (10, .int 1), (9, .int y), (8, .int x), (0, .ref b), (1, .ref (ad 0)), (2, .ref (ad 34)), (3, .ref (ad 35)), (4, .ref (ad 36)), (5, .ref (ad 37)), (6, .ref (ad 38))]) hx hb dL_law_241 hl rfl (nI_add i 1) (by decide) rfl (fun ls hl => ?_)
      refine lv_goto (tgt := 87) hx hb dL_law_244 (by decide) ?_
      exact kL H locs ls cells9 slots9 hi6 J hS (lv_sub hl [4, 5, 6, 7, 8, 9, 10, 0] rfl) (by omega) (by omega)
    refine lv_iload hx hb dL_law_193 (lv_at hl 10 rfl) ?_
    refine lv_iconst (v := 4) hx hb dL_law_195 (by decide) ?_
    refine lv_irem hx hb dL_law_196 (by decide) ?_
    refine cx_top (pk_rem (a := i) (d := 4) (by omega) (by decide) (by decide)) ?_
    refine lv_iconst (v := 3) hx hb dL_law_197 (by decide) ?_
    refine lv_icmp_ne (tgt := 241) hx hb dL_law_198 (by decide) (fun _ => kN H locs _ _ ⟨I, R, lm, nx, ct, hP, hJ, ht⟩ hS (by omega) (by omega)) (fun _ => ?_)
    refine lv_aload_n hx hb dL_law_201 rfl (lv_at hl 4 rfl) ?_
    refine lv_iload hx hb dL_law_202 (lv_at hl 2 rfl) ?_
    refine lv_iconst (v := 4) hx hb dL_law_204 (by decide) ?_
    refine lv_ishr hx hb dL_law_205 ?_
    obtain ⟨x4, ex4⟩ : ∃ z, x >>> (4 &&& 31) = z := ⟨_, rfl⟩
    refine cx_top ex4 ?_
    refine lv_iload hx hb dL_law_206 (lv_at hl 2 rfl) ?_
    refine lv_bipush (v := 20) hx hb dL_law_208 (by decide) ?_
    refine lv_ishr hx hb dL_law_210 ?_
    refine lv_iconst (v := 1) hx hb dL_law_211 (by decide) ?_
    refine lv_iand hx hb dL_law_212 ?_
    have kH : ∀ (n : Nat), 0 < n → n ≤ 600000 → W p l e room_1 s m args below meth c H locs cells4 slots4 Q (F0 m 224 ls [.int (nI n), .int x4, .ref (ad 0)]) := fun n hn0 hn1 => by
      refine cx_ri (va_runS (As := [.int x4, .int (nI n)]) (rest := [.ref (ad 0)]) ⟨hx, hb, hml, hown, hts⟩ (c_L_low l x4 n hn0 (by omega)) (va_cwS 2 hts gL_law_L_low rfl rfl rfl (by decide +kernel) ⟨Nat.le_of_ble_eq_true rfl, Nat.le_of_ble_eq_true rfl⟩) ⟨pc_blind, fun U hU hW => ⟨rfl, trivial⟩⟩ rfl rfl hl.1 rfl (lv_room (Nat.le_of_ble_eq_true rfl)) dL_law_224 ⟨show _ + 0 ≤ 647074 by omega, show _ + 0 ≤ 7159959 by omega⟩) hS hP (fun H locs hP hS => ?_)
      have hx9 : outI (nI (loN x4 % n)) 0 9999999 = 0 := so_e (Nat.mod_lt _ hn0) hn1
      refine lv_aload_n hx hb dL_law_227 rfl (lv_at hl 5 rfl) ?_
      refine lv_aload_n hx hb dL_law_228 rfl (lv_at hl 6 rfl) ?_
      refine lv_aload hx hb dL_law_229 (lv_at hl 7 rfl) ?_
      refine lv_aload hx hb dL_law_231 (lv_at hl 8 rfl) ?_
      refine cx_wi (va_runS (As := [.ref (ad 0), .int (nI (loN x4 % n)), .ref (ad 34), .ref (ad 35), .ref (ad 36), .ref (ad 37)]) (rest := []) ⟨hx, hb, hml, hown, hts⟩ (c_L_isAhead l D T ad I R _ lm (nI (loN x4 % n)) hAD hm hI h0 h1 hb1 hbd hbp ht hx9 hlt) (va_cwS 6 hts gL_law_L_isAhead rfl rfl rfl (by decide +kernel) ⟨Nat.le_of_ble_eq_true rfl, Nat.le_of_ble_eq_true rfl⟩) ⟨PB.blind, PB.pre hP hK hN hXU hXZ hNc hS (cA_sub (fun j hj => hge j hj) (fun q hq => Nat.le_trans hS.1 hq)) rfl⟩ rfl rfl hl.1 rfl (lv_room (Nat.le_of_ble_eq_true rfl)) dL_law_233 ⟨show _ + 5 ≤ 647074 by omega, show _ + 30 ≤ 7159959 by omega⟩) hS (cA_sub (fun j hj => hge j hj) (fun q hq => Nat.le_trans hS.1 hq)) (cA_sub (fun j hj => hge j hj) (fun q hq => Nat.le_trans hS.1 hq)) (fun u H locs _ hP hkk hS => ?_)
      obtain ⟨cells5, hc5⟩ : ∃ z, cells4 + 5 = z := ⟨_, rfl⟩
      obtain ⟨slots5, hs5⟩ : ∃ z, slots4 + 30 = z := ⟨_, rfl⟩
      rw [hc5, hs5]
      obtain ⟨R, eR2⟩ : ∃ z, updR R 19 u = z := ⟨_, rfl⟩
      have ht : R 23 = fun n => trS (dr (R 20) lm) n 8 := by rw [← eR2]; exact ht_19 ht
      have hJ : JL lm nx ct I R := by rw [← eR2]; exact jl_up (Or.inl rfl) hJ
      have hP : va_P D vwCl (pw T ad I R) H := by rw [← eR2]; exact hP
      clear eR2 hm hI hnx hct hI1 hI2 h0 h1 hb1 h5 hbd hbp hkk
      obtain ⟨hm, hI, hnx, hct, hI1, hI2, h0, h1, hb1, h5, hbd, hbp⟩ : lm < 256 ∧ I 4 = nI lm ∧ nx < 6 ∧ ct ≤ 6 ∧ I 1 = nI nx ∧ I 2 = nI ct ∧ R 0 = R 20 ∧ R 1 = R 22 ∧ R 21 = lbI lm ∧ I 5 = R 24 0 ∧ BdA (R 20) ∧ BdP (R 22) := id hJ
      refine lv_if_ne (tgt := 241) hx hb dL_law_236 (by decide) (fun _ => ?_) (fun h => absurd h (by decide))
      exact kN H locs _ _ ⟨I, R, lm, nx, ct, hP, hJ, ht⟩ hS (by omega) (by omega)
    refine lv_if_ne (tgt := 222) hx hb dL_law_213 (by decide) (fun _ => ?_) (fun _ => ?_)
    · refine lv_ldc (v := 600000) hx hb hown (hts (.constant RL 142 (600000)) (by decide +kernel)) dL_law_222 ?_
      exact kH 600000 (by decide) (by decide)
    · refine lv_sipush (v := 4000) hx hb dL_law_216 (by decide) ?_
      refine lv_goto (tgt := 224) hx hb dL_law_219 (by decide) ?_
      exact kH 4000 (by decide) (by decide)
  refine lv_icmp_ge (tgt := 127) hx hb dL_law_120 (by decide) (fun _ => ?_) (fun _ => ?_)
  · refine lv_iload hx hb dL_law_127 (lv_at hl 1 rfl) ?_
    exact kA x
  · refine lv_iconst (v := 0) hx hb dL_law_123 (by decide) ?_
    refine lv_goto (tgt := 129) hx hb dL_law_124 (by decide) ?_
    exact kA 0
set_option maxHeartbeats 4000000 in
theorem lw_loop {p : Program} {l : Launch} {e : Env} {s : State} {m : MethodId} {args : Array Value} {below : List Frame} {meth : Method} {c : Code} {Q : State → Prop} {D : va_G} {T : Nat → ClassId} {ad : Nat → Nat} {b : Addr} {L : Nat} {xs : Nat → Int32} (C0 : LwF p l s m c args D T ad b L xs)
    (kE : ∀ (H : Heap) (locs : List Loc) (ls : Array Slot) (cells slots : Nat), LJ D T ad H → va_S (LwA s) s.heap H locs → lv_has ls 11 (lwLv b ad 60) → cells ≤ 1600 → slots ≤ 13200 → W p l e room_1 s m args below meth c H locs cells slots Q (F0 m 247 ls [])) :
    ∀ (n i : Nat) (H : Heap) (locs : List Loc) (ls : Array Slot) (cells slots : Nat), i + n = 60 → LJ D T ad H → va_S (LwA s) s.heap H locs → lv_has ls 11 (lwLv b ad i) → cells ≤ 1000 + 10 * i → slots ≤ 9000 + 70 * i → W p l e room_1 s m args below meth c H locs cells slots Q (F0 m 87 ls []) := by
  intro n
  induction n with
  | zero => intro i H locs ls cells slots h1 J hS hl hc hs; exact lw_step C0 (by omega) J hS hl hc hs kE (fun _ _ _ _ _ h => absurd h (by omega))
  | succ n ih => intro i H locs ls cells slots h1 J hS hl hc hs; exact lw_step C0 (by omega) J hS hl hc hs kE (fun H1 locs1 ls1 c1 s1 _ J1 hS1 hl1 hc1 hs1 => ih (i + 1) H1 locs1 ls1 c1 s1 (by omega) J1 hS1 hl1 hc1 hs1)


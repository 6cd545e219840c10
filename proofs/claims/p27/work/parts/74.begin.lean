theorem jl_zero : JL 0 0 0 (fun _ => 0) (fun _ _ => 0) := by
  unfold JL
  exact ⟨by decide, rfl, by decide, by decide, rfl, rfl, rfl, rfl, funext fun k => (lb_z k).symm, rfl, fun k _ => (show (-99 : Int) ≤ (0 : Int32).toInt ∧ (0 : Int32).toInt ≤ 99 by decide), fun k _ => (show (-9999 : Int) ≤ (0 : Int32).toInt ∧ (0 : Int32).toInt ≤ 9999 by decide)⟩
theorem tr_zero (n : Nat) : ∀ i, trS (dr (fun _ => 0) 0) n i = 0
  | 0 => rfl
  | i + 1 => by
    have e : dr (fun _ => 0) 0 i = 0 := by unfold dr; split <;> rfl
    show trS (dr (fun _ => 0) 0) n i + dr (fun _ => 0) 0 i * wv i n = 0
    rw [tr_zero n i, e, Int32.zero_mul]; rfl
theorem ht_zero : (fun _ => 0 : Nat → Int32) = fun n => trS (dr (fun _ => 0) 0) n 8 := funext fun n => (tr_zero n 8).symm
def ad5 (ad : Nat → Nat) (q2 q3 q4 q5 q6 : Nat) : Nat → Nat := fun k => if k < 34 then ad k else ([q2, q3, q4, q5, q6] : List Nat).getD (k - 34) 0
section
variable {D : va_G} {A : Nat → Prop} {T : Nat → ClassId} {ad : Nat → Nat} {H : Heap} {q2 q3 q4 q5 q6 : Nat}
theorem ad5_lt {k : Nat} (h : k < 34) : ad5 ad q2 q3 q4 q5 q6 k = ad k := if_pos h
theorem pw_new5 (h : va_P D vwCl (cw T ad (fun _ => 0) (fun _ _ => 0) ++ [(q2, .inl (T 1, 8, .inl (fun _ => 0)))] ++ [(q3, .inl (T 1, 8, .inl (fun _ => 0)))] ++ [(q4, .inl (T 1, 8, .inl (fun _ => 0)))] ++ [(q5, .inl (T 1, 8, .inl (fun _ => 0)))] ++ [(q6, .inl (T 1, 1, .inl (fun _ => 0)))]) H) : va_P D vwCl (pw T (ad5 ad q2 q3 q4 q5 q6) (fun _ => 0) (fun _ _ => 0)) H := by
  have h1 := cx_req (k := 4) (g := fun j => some (ad5 ad q2 q3 q4 q5 q6 (28 + 3 * j))) h rfl (fun j hj => by rw [ad5_lt (by omega)]) rfl
  have h2 := cx_req (k := 6) (g := fun j => some (ad5 ad q2 q3 q4 q5 q6 (10 + 3 * j))) h1 rfl (fun j hj => by rw [ad5_lt (by omega)]) rfl
  exact h2
theorem pw_new5D (h : va_D A (cw T ad (fun _ => 0) (fun _ _ => 0) ++ [(q2, .inl (T 1, 8, .inl (fun _ => 0)))] ++ [(q3, .inl (T 1, 8, .inl (fun _ => 0)))] ++ [(q4, .inl (T 1, 8, .inl (fun _ => 0)))] ++ [(q5, .inl (T 1, 8, .inl (fun _ => 0)))] ++ [(q6, .inl (T 1, 1, .inl (fun _ => 0)))])) : va_D A (pw T (ad5 ad q2 q3 q4 q5 q6) (fun _ => 0) (fun _ _ => 0)) :=
  (h.set (p := 4) (e := .inl (T 3, 2, .inr (.inr (.inr (.inr (fun j => some (ad5 ad q2 q3 q4 q5 q6 (28 + 3 * j)))))))) rfl).set (p := 6) (e := .inl (T 3, 6, .inr (.inr (.inr (.inr (fun j => some (ad5 ad q2 q3 q4 q5 q6 (10 + 3 * j)))))))) rfl
end

set_option maxHeartbeats 4000000 in
set_option maxRecDepth 100000 in
theorem lw_end {p : Program} {l : Launch} {e : Env} {s : State} {m : MethodId} {args : Array Value} {below : List Frame} {meth : Method} {c : Code} {Q : State → Prop} {D : va_G} {T : Nat → ClassId} {ad : Nat → Nat} {b : Addr} {L : Nat} {xs : Nat → Int32} (C0 : LwF p l s m c args D T ad b L xs) {H : Heap} {locs : List Loc} {ls : Array Slot} {cells slots : Nat} (J : LJ D T ad H) (hS : va_S (LwA s) s.heap H locs) (hl : lv_has ls 11 (lwLv b ad 60)) (hc : cells ≤ 1600) (hs : slots ≤ 13200)
    (kR : ∀ (H : Heap) (locs : List Loc) (ls : Array Slot) (cells slots : Nat), va_S (LwA s) s.heap H locs → cells ≤ 647074 → slots ≤ 7159959 → W p l e room_1 s m args below meth c H locs cells slots Q (F0 m 320 ls [.int 1])) : W p l e room_1 s m args below meth c H locs cells slots Q (F0 m 247 ls []) := by
  obtain ⟨hx, hb, hml, hown, hts, hK, hN, hXU, hXZ, hNc, hAD, hge, hX, hbl, hlt, hL⟩ := C0
  obtain ⟨I, R, lm, nx, ct, hP, hJ, ht⟩ := J
  refine lv_aload_n hx hb dL_law_247 rfl (lv_at hl 1 rfl) ?_
  refine lv_bipush (v := 8) hx hb dL_law_248 (by decide) ?_
  refine lv_iconst (v := 4) hx hb dL_law_250 (by decide) ?_
  refine cx_rm (vx_runSW (As := [.ref (ad 0), .int 8, .int 4]) (rest := []) ⟨hx, hb, hml, hown, hts⟩ (h_wheelOf_t1 l D T ad I R hlt 8 4 (by decide)) (vx_cwSW 3 hts gL_law_L_wheelOf rfl rfl rfl (by decide +kernel) ⟨Nat.le_of_ble_eq_true rfl, Nat.le_of_ble_eq_true rfl⟩) ⟨XN.blind, XN.pre (pw_c hP) hK hN hXU hXZ hNc hS rfl⟩ rfl rfl hl.1 rfl (lv_room (Nat.le_of_ble_eq_true rfl)) dL_law_251 ⟨show _ + 1 ≤ 647074 by omega, show _ + 6 ≤ 7159959 by omega⟩) hS (fun H locs hkk hS => ?_)
  have hP := cx_keep hP hkk
  obtain ⟨cells1, hc1⟩ : ∃ z, cells + 1 = z := ⟨_, rfl⟩
  obtain ⟨slots1, hs1⟩ : ∃ z, slots + 6 = z := ⟨_, rfl⟩
  rw [hc1, hs1]
  refine lv_bipush (v := (-31)) hx hb dL_law_254 (by decide) ?_
  refine lv_icmp_ne (tgt := 319) hx hb dL_law_256 (by decide) (fun h => absurd h (by decide)) (fun _ => ?_)
  refine lv_aload_n hx hb dL_law_259 rfl (lv_at hl 1 rfl) ?_
  refine lv_iconst (v := 0) hx hb dL_law_260 (by decide) ?_
  refine lv_iconst (v := 4) hx hb dL_law_261 (by decide) ?_
  refine cx_rm (vx_runSW (As := [.ref (ad 0), .int 0, .int 4]) (rest := []) ⟨hx, hb, hml, hown, hts⟩ (h_wheelOf_t2 l D T ad I R hlt 0 4 (by decide) (by decide)) (vx_cwSW 3 hts gL_law_L_wheelOf rfl rfl rfl (by decide +kernel) ⟨Nat.le_of_ble_eq_true rfl, Nat.le_of_ble_eq_true rfl⟩) ⟨XN.blind, XN.pre (pw_c hP) hK hN hXU hXZ hNc hS rfl⟩ rfl rfl hl.1 rfl (lv_room (Nat.le_of_ble_eq_true rfl)) dL_law_262 ⟨show _ + 1 ≤ 647074 by omega, show _ + 6 ≤ 7159959 by omega⟩) hS (fun H locs hkk hS => ?_)
  have hP := cx_keep hP hkk
  obtain ⟨cells2, hc2⟩ : ∃ z, cells1 + 1 = z := ⟨_, rfl⟩
  obtain ⟨slots2, hs2⟩ : ∃ z, slots1 + 6 = z := ⟨_, rfl⟩
  rw [hc2, hs2]
  refine lv_bipush (v := (-32)) hx hb dL_law_265 (by decide) ?_
  refine lv_icmp_ne (tgt := 319) hx hb dL_law_267 (by decide) (fun h => absurd h (by decide)) (fun _ => ?_)
  refine lv_aload_n hx hb dL_law_270 rfl (lv_at hl 1 rfl) ?_
  refine lv_bipush (v := 8) hx hb dL_law_271 (by decide) ?_
  refine lv_iconst (v := 2) hx hb dL_law_273 (by decide) ?_
  refine cx_rm (vx_runSW (As := [.ref (ad 0), .int 8, .int 2]) (rest := []) ⟨hx, hb, hml, hown, hts⟩ (h_trace_t1 l D T ad I R hlt 8 2 (by decide)) (vx_cwSW 3 hts gL_law_L_trace rfl rfl rfl (by decide +kernel) ⟨Nat.le_of_ble_eq_true rfl, Nat.le_of_ble_eq_true rfl⟩) ⟨XN.blind, XN.pre (pw_c hP) hK hN hXU hXZ hNc hS rfl⟩ rfl rfl hl.1 rfl (lv_room (Nat.le_of_ble_eq_true rfl)) dL_law_274 ⟨show _ + 1 ≤ 647074 by omega, show _ + 6 ≤ 7159959 by omega⟩) hS (fun H locs hkk hS => ?_)
  have hP := cx_keep hP hkk
  obtain ⟨cells3, hc3⟩ : ∃ z, cells2 + 1 = z := ⟨_, rfl⟩
  obtain ⟨slots3, hs3⟩ : ∃ z, slots2 + 6 = z := ⟨_, rfl⟩
  rw [hc3, hs3]
  refine lv_bipush (v := (-31)) hx hb dL_law_277 (by decide) ?_
  refine lv_icmp_ne (tgt := 319) hx hb dL_law_279 (by decide) (fun h => absurd h (by decide)) (fun _ => ?_)
  refine lv_aload_n hx hb dL_law_282 rfl (lv_at hl 1 rfl) ?_
  refine lv_iconst (v := 0) hx hb dL_law_283 (by decide) ?_
  refine lv_iconst (v := 2) hx hb dL_law_284 (by decide) ?_
  refine cx_rm (vx_runSW (As := [.ref (ad 0), .int 0, .int 2]) (rest := []) ⟨hx, hb, hml, hown, hts⟩ (h_trace_t2 l D T ad I R hlt 0 2 (by decide) (by decide)) (vx_cwSW 3 hts gL_law_L_trace rfl rfl rfl (by decide +kernel) ⟨Nat.le_of_ble_eq_true rfl, Nat.le_of_ble_eq_true rfl⟩) ⟨XN.blind, XN.pre (pw_c hP) hK hN hXU hXZ hNc hS rfl⟩ rfl rfl hl.1 rfl (lv_room (Nat.le_of_ble_eq_true rfl)) dL_law_285 ⟨show _ + 1 ≤ 647074 by omega, show _ + 6 ≤ 7159959 by omega⟩) hS (fun H locs hkk hS => ?_)
  have hP := cx_keep hP hkk
  obtain ⟨cells4, hc4⟩ : ∃ z, cells3 + 1 = z := ⟨_, rfl⟩
  obtain ⟨slots4, hs4⟩ : ∃ z, slots3 + 6 = z := ⟨_, rfl⟩
  rw [hc4, hs4]
  refine lv_bipush (v := (-32)) hx hb dL_law_288 (by decide) ?_
  refine lv_icmp_ne (tgt := 319) hx hb dL_law_290 (by decide) (fun h => absurd h (by decide)) (fun _ => ?_)
  refine lv_aload_n hx hb dL_law_293 rfl (lv_at hl 1 rfl) ?_
  refine lv_iconst (v := (-1)) hx hb dL_law_294 (by decide) ?_
  refine lv_iconst (v := 3) hx hb dL_law_295 (by decide) ?_
  refine cx_rm (vx_runSW (As := [.ref (ad 0), .int (-1), .int 3]) (rest := []) ⟨hx, hb, hml, hown, hts⟩ (h_pointOf_t1 l D T ad I R hlt (-1) 3 (by decide)) (vx_cwSW 3 hts gL_law_L_pointOf rfl rfl rfl (by decide +kernel) ⟨Nat.le_of_ble_eq_true rfl, Nat.le_of_ble_eq_true rfl⟩) ⟨XN.blind, XN.pre (pw_c hP) hK hN hXU hXZ hNc hS rfl⟩ rfl rfl hl.1 rfl (lv_room (Nat.le_of_ble_eq_true rfl)) dL_law_296 ⟨show _ + 1 ≤ 647074 by omega, show _ + 6 ≤ 7159959 by omega⟩) hS (fun H locs hkk hS => ?_)
  have hP := cx_keep hP hkk
  obtain ⟨cells5, hc5⟩ : ∃ z, cells4 + 1 = z := ⟨_, rfl⟩
  obtain ⟨slots5, hs5⟩ : ∃ z, slots4 + 6 = z := ⟨_, rfl⟩
  rw [hc5, hs5]
  refine lv_bipush (v := (-31)) hx hb dL_law_299 (by decide) ?_
  refine lv_icmp_ne (tgt := 319) hx hb dL_law_301 (by decide) (fun h => absurd h (by decide)) (fun _ => ?_)
  refine lv_aload_n hx hb dL_law_304 rfl (lv_at hl 1 rfl) ?_
  refine lv_iconst (v := 0) hx hb dL_law_305 (by decide) ?_
  refine lv_iconst (v := 3) hx hb dL_law_306 (by decide) ?_
  refine cx_rm (vx_runSW (As := [.ref (ad 0), .int 0, .int 3]) (rest := []) ⟨hx, hb, hml, hown, hts⟩ (h_pointOf_t2 l D T ad I R hlt 0 3 (by decide) (by decide)) (vx_cwSW 3 hts gL_law_L_pointOf rfl rfl rfl (by decide +kernel) ⟨Nat.le_of_ble_eq_true rfl, Nat.le_of_ble_eq_true rfl⟩) ⟨XN.blind, XN.pre (pw_c hP) hK hN hXU hXZ hNc hS rfl⟩ rfl rfl hl.1 rfl (lv_room (Nat.le_of_ble_eq_true rfl)) dL_law_307 ⟨show _ + 1 ≤ 647074 by omega, show _ + 6 ≤ 7159959 by omega⟩) hS (fun H locs hkk hS => ?_)
  have hP := cx_keep hP hkk
  obtain ⟨cells6, hc6⟩ : ∃ z, cells5 + 1 = z := ⟨_, rfl⟩
  obtain ⟨slots6, hs6⟩ : ∃ z, slots5 + 6 = z := ⟨_, rfl⟩
  rw [hc6, hs6]
  refine lv_bipush (v := (-32)) hx hb dL_law_310 (by decide) ?_
  refine lv_icmp_ne (tgt := 319) hx hb dL_law_312 (by decide) (fun h => absurd h (by decide)) (fun _ => ?_)
  refine lv_iconst (v := 1) hx hb dL_law_315 (by decide) ?_
  refine lv_goto (tgt := 320) hx hb dL_law_316 (by decide) ?_
  exact kR H locs ls _ _ hS (by omega) (by omega)
set_option maxHeartbeats 4000000 in
set_option maxRecDepth 100000 in
theorem lw_begin {p : Program} {l : Launch} {e : Env} {s : State} {m : MethodId} {args : Array Value} {below : List Frame} {meth : Method} {c : Code} {Q : State → Prop} {D : va_G} {T : Nat → ClassId} {ad : Nat → Nat} {b : Addr} {L : Nat} {xs : Nat → Int32} (C0 : LwF p l s m c args D T ad b L xs) {H : Heap} {locs : List Loc} {ls : Array Slot} {cells slots : Nat} (hP : va_P D vwCl (pw T ad (fun _ => 0) (fun _ _ => 0)) H) (hS : va_S (LwA s) s.heap H locs) (hl : lv_has ls 11 [(6, .ref (ad 38)), (5, .ref (ad 37)), (4, .ref (ad 36)), (3, .ref (ad 35)), (2, .ref (ad 34)), (1, .ref (ad 0)), (0, .ref b)]) (hc : cells ≤ 900) (hs : slots ≤ 8000)
    (kE : ∀ (H : Heap) (locs : List Loc) (ls : Array Slot) (cells slots : Nat), LJ D T ad H → va_S (LwA s) s.heap H locs → lv_has ls 11 (lwLv b ad 60) → cells ≤ 1600 → slots ≤ 13200 → W p l e room_1 s m args below meth c H locs cells slots Q (F0 m 247 ls [])) : W p l e room_1 s m args below meth c H locs cells slots Q (F0 m 35 ls []) := by
  have C1 := C0
  obtain ⟨hx, hb, hml, hown, hts, hK, hN, hXU, hXZ, hNc, hAD, hge, hX, hbl, hlt, hL⟩ := C0
  obtain ⟨I, eI⟩ : ∃ z : Nat → Int32, (fun _ => 0) = z := ⟨_, rfl⟩
  obtain ⟨R, eR⟩ : ∃ z : Nat → Nat → Int32, (fun _ _ => 0) = z := ⟨_, rfl⟩
  have hJ : JL 0 0 0 I R := by rw [← eI, ← eR]; exact jl_zero
  have ht : R 23 = fun n => trS (dr (R 20) 0) n 8 := by rw [← eR]; exact ht_zero
  have hI20 : I 2 = 0 := by rw [← eI]
  rw [eR, eI] at hP
  clear eI eR
  obtain ⟨hm, hI, hnx, hct, hI1, hI2, h0, h1, hb1, h5, hbd, hbp⟩ : 0 < 256 ∧ I 4 = nI 0 ∧ 0 < 6 ∧ 0 ≤ 6 ∧ I 1 = nI 0 ∧ I 2 = nI 0 ∧ R 0 = R 20 ∧ R 1 = R 22 ∧ R 21 = lbI 0 ∧ I 5 = R 24 0 ∧ BdA (R 20) ∧ BdP (R 22) := id hJ
  refine lv_aload_n hx hb dL_law_35 rfl (lv_at hl 5 rfl) ?_
  refine lv_aload_n hx hb dL_law_36 rfl (lv_at hl 4 rfl) ?_
  refine lv_aload_n hx hb dL_law_37 rfl (lv_at hl 3 rfl) ?_
  refine lv_aload hx hb dL_law_38 (lv_at hl 2 rfl) ?_
  refine cx_wi (va_runS (As := [.ref (ad 0), .ref (ad 34), .ref (ad 35), .ref (ad 36)]) (rest := []) ⟨hx, hb, hml, hown, hts⟩ (c_L_areWheels l D T ad I R _ 0 hAD hm hI h0 h1 hb1 hbd hbp) (va_cwS 4 hts gL_law_L_areWheels rfl rfl rfl (by decide +kernel) ⟨Nat.le_of_ble_eq_true rfl, Nat.le_of_ble_eq_true rfl⟩) ⟨PB.blind, PB.pre hP hK hN hXU hXZ hNc hS (cA_sub (fun j hj => hge j hj) (fun q hq => Nat.le_trans hS.1 hq)) rfl⟩ rfl rfl hl.1 rfl (lv_room (Nat.le_of_ble_eq_true rfl)) dL_law_40 ⟨show _ + 1 ≤ 647074 by omega, show _ + 8 ≤ 7159959 by omega⟩) hS (cA_sub (fun j hj => hge j hj) (fun q hq => Nat.le_trans hS.1 hq)) (cA_sub (fun j hj => hge j hj) (fun q hq => Nat.le_trans hS.1 hq)) (fun _ H locs _ hP hkk hS => ?_)
  obtain ⟨cells1, hc1⟩ : ∃ z, cells + 1 = z := ⟨_, rfl⟩
  obtain ⟨slots1, hs1⟩ : ∃ z, slots + 8 = z := ⟨_, rfl⟩
  rw [hc1, hs1]
  clear hkk
  refine lv_if_eq (tgt := 82) hx hb dL_law_43 (by decide) (fun h => absurd h (by decide)) (fun _ => ?_)
  refine lv_aload_n hx hb dL_law_46 rfl (lv_at hl 5 rfl) ?_
  refine lv_aload_n hx hb dL_law_47 rfl (lv_at hl 4 rfl) ?_
  refine lv_aload_n hx hb dL_law_48 rfl (lv_at hl 3 rfl) ?_
  refine lv_aload hx hb dL_law_49 (lv_at hl 2 rfl) ?_
  refine lv_aload hx hb dL_law_51 (lv_at hl 1 rfl) ?_
  refine cx_wi (va_runS (As := [.ref (ad 0), .ref (ad 34), .ref (ad 35), .ref (ad 36), .ref (ad 37)]) (rest := []) ⟨hx, hb, hml, hown, hts⟩ (c_L_arePoints l D T ad I R _ 0 hAD hm hI h0 h1 hb1 hbd hbp ht) (va_cwS 5 hts gL_law_L_arePoints rfl rfl rfl (by decide +kernel) ⟨Nat.le_of_ble_eq_true rfl, Nat.le_of_ble_eq_true rfl⟩) ⟨PB.blind, PB.pre hP hK hN hXU hXZ hNc hS (cA_sub (fun j hj => hge j hj) (fun q hq => Nat.le_trans hS.1 hq)) rfl⟩ rfl rfl hl.1 rfl (lv_room (Nat.le_of_ble_eq_true rfl)) dL_law_53 ⟨show _ + 1 ≤ 647074 by omega, show _ + 8 ≤ 7159959 by omega⟩) hS (cA_sub (fun j hj => hge j hj) (fun q hq => Nat.le_trans hS.1 hq)) (cA_sub (fun j hj => hge j hj) (fun q hq => Nat.le_trans hS.1 hq)) (fun u H locs _ hP hkk hS => ?_)
  obtain ⟨cells2, hc2⟩ : ∃ z, cells1 + 1 = z := ⟨_, rfl⟩
  obtain ⟨slots2, hs2⟩ : ∃ z, slots1 + 8 = z := ⟨_, rfl⟩
  rw [hc2, hs2]
  obtain ⟨R, eR2⟩ : ∃ z, updR R 19 u = z := ⟨_, rfl⟩
  have ht : R 23 = fun n => trS (dr (R 20) 0) n 8 := by rw [← eR2]; exact ht_19 ht
  have hJ : JL 0 0 0 I R := by rw [← eR2]; exact jl_up (Or.inl rfl) hJ
  have hP : va_P D vwCl (pw T ad I R) H := by rw [← eR2]; exact hP
  clear eR2 hm hI hnx hct hI1 hI2 h0 h1 hb1 h5 hbd hbp hkk
  obtain ⟨hm, hI, hnx, hct, hI1, hI2, h0, h1, hb1, h5, hbd, hbp⟩ : 0 < 256 ∧ I 4 = nI 0 ∧ 0 < 6 ∧ 0 ≤ 6 ∧ I 1 = nI 0 ∧ I 2 = nI 0 ∧ R 0 = R 20 ∧ R 1 = R 22 ∧ R 21 = lbI 0 ∧ I 5 = R 24 0 ∧ BdA (R 20) ∧ BdP (R 22) := id hJ
  refine lv_if_eq (tgt := 82) hx hb dL_law_56 (by decide) (fun h => absurd h (by decide)) (fun _ => ?_)
  refine lv_aload_n hx hb dL_law_59 rfl (lv_at hl 5 rfl) ?_
  refine lv_iconst (v := 0) hx hb dL_law_60 (by decide) ?_
  refine lv_aload_n hx hb dL_law_61 rfl (lv_at hl 4 rfl) ?_
  refine lv_aload_n hx hb dL_law_62 rfl (lv_at hl 3 rfl) ?_
  refine lv_aload hx hb dL_law_63 (lv_at hl 2 rfl) ?_
  refine lv_aload hx hb dL_law_65 (lv_at hl 1 rfl) ?_
  refine cx_wi (va_runS (As := [.ref (ad 0), .int 0, .ref (ad 34), .ref (ad 35), .ref (ad 36), .ref (ad 37)]) (rest := []) ⟨hx, hb, hml, hown, hts⟩ (c_L_isAhead l D T ad I R _ 0 0 hAD hm hI h0 h1 hb1 hbd hbp ht (by decide) hlt) (va_cwS 6 hts gL_law_L_isAhead rfl rfl rfl (by decide +kernel) ⟨Nat.le_of_ble_eq_true rfl, Nat.le_of_ble_eq_true rfl⟩) ⟨PB.blind, PB.pre hP hK hN hXU hXZ hNc hS (cA_sub (fun j hj => hge j hj) (fun q hq => Nat.le_trans hS.1 hq)) rfl⟩ rfl rfl hl.1 rfl (lv_room (Nat.le_of_ble_eq_true rfl)) dL_law_67 ⟨show _ + 5 ≤ 647074 by omega, show _ + 30 ≤ 7159959 by omega⟩) hS (cA_sub (fun j hj => hge j hj) (fun q hq => Nat.le_trans hS.1 hq)) (cA_sub (fun j hj => hge j hj) (fun q hq => Nat.le_trans hS.1 hq)) (fun u H locs _ hP hkk hS => ?_)
  obtain ⟨cells3, hc3⟩ : ∃ z, cells2 + 5 = z := ⟨_, rfl⟩
  obtain ⟨slots3, hs3⟩ : ∃ z, slots2 + 30 = z := ⟨_, rfl⟩
  rw [hc3, hs3]
  obtain ⟨R, eR2⟩ : ∃ z, updR R 19 u = z := ⟨_, rfl⟩
  have ht : R 23 = fun n => trS (dr (R 20) 0) n 8 := by rw [← eR2]; exact ht_19 ht
  have hJ : JL 0 0 0 I R := by rw [← eR2]; exact jl_up (Or.inl rfl) hJ
  have hP : va_P D vwCl (pw T ad I R) H := by rw [← eR2]; exact hP
  clear eR2 hm hI hnx hct hI1 hI2 h0 h1 hb1 h5 hbd hbp hkk
  obtain ⟨hm, hI, hnx, hct, hI1, hI2, h0, h1, hb1, h5, hbd, hbp⟩ : 0 < 256 ∧ I 4 = nI 0 ∧ 0 < 6 ∧ 0 ≤ 6 ∧ I 1 = nI 0 ∧ I 2 = nI 0 ∧ R 0 = R 20 ∧ R 1 = R 22 ∧ R 21 = lbI 0 ∧ I 5 = R 24 0 ∧ BdA (R 20) ∧ BdP (R 22) := id hJ
  refine lv_if_eq (tgt := 82) hx hb dL_law_70 (by decide) (fun h => absurd h (by decide)) (fun _ => ?_)
  refine lv_aload_n hx hb dL_law_73 rfl (lv_at hl 5 rfl) ?_
  refine cx_rm (vx_runSW (As := [.ref (ad 0)]) (rest := []) ⟨hx, hb, hml, hown, hts⟩ (h_undo_t1 l D T ad I R hlt hI20) (vx_cwSW 1 hts gL_law_L_undo rfl rfl rfl (by decide +kernel) ⟨Nat.le_of_ble_eq_true rfl, Nat.le_of_ble_eq_true rfl⟩) ⟨XN.blind, XN.pre (pw_c hP) hK hN hXU hXZ hNc hS rfl⟩ rfl rfl hl.1 rfl (lv_room (Nat.le_of_ble_eq_true rfl)) dL_law_74 ⟨show _ + 1 ≤ 647074 by omega, show _ + 6 ≤ 7159959 by omega⟩) hS (fun H locs hkk hS => ?_)
  have hP := cx_keep hP hkk
  obtain ⟨cells4, hc4⟩ : ∃ z, cells3 + 1 = z := ⟨_, rfl⟩
  obtain ⟨slots4, hs4⟩ : ∃ z, slots3 + 6 = z := ⟨_, rfl⟩
  rw [hc4, hs4]
  refine lv_bipush (v := (-33)) hx hb dL_law_77 (by decide) ?_
  refine lv_icmp_eq (tgt := 84) hx hb dL_law_79 (by decide) (fun _ => ?_) (fun h => absurd h (by decide))
  refine lv_iconst (v := nI 0) hx hb dL_law_84 (by decide) ?_
  refine lv_istore (lv' := [(7, .int (nI 0)), (6, .ref (ad 38)), (5, .ref (ad 37)), (4, .ref (ad 36)), (3, .ref (ad 35)), (2, .ref (ad 34)), (1, .ref (ad 0)), (0, .ref b)]) hx hb dL_law_85 hl (by decide) rfl (fun ls hl => ?_)
  exact lw_loop C1 kE 60 0 H _ ls _ _ rfl ⟨I, R, 0, 0, 0, hP, hJ, ht⟩ hS (lv_sub hl [7, 6, 5, 4, 3, 2, 1, 0] rfl) (by omega) (by omega)

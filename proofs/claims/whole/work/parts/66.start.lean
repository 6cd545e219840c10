set_option maxHeartbeats 4000000 in
set_option maxRecDepth 100000 in
/-- the law, from its entry -/
theorem whole_start {p : Program} {e : Env} {s : State} {m : MethodId} {below : List Frame} {meth : Method} {c : Code} (l : Launch) (hflags : l.flags = flags0) {b L : Nat} {xs : Nat → Int32} (hL : L ≤ 1536) (C0 : lw_At p s m meth c b L xs) : W p l e room_1 s m #[Value.ref b] below meth c s.heap [] 0 0 (lw_Z below #[Value.ref b] s) (entryFrame m ([Value.ref b] : List Value).toArray 9) := by
  obtain ⟨hx, hb, hr, hml, hown0, htt, hX, hbl, hlocks, hgv⟩ := C0
  have hown : s.vm.findClass RL = some m.cls := hown0
  have hts : ∀ w ∈ wsL_law, w.before #[Value.ref b] s = true := fun w hw => htt w (wsL_law_in w hw)
  obtain ⟨D, T, hK⟩ := lw_K htt
  have hN := lw_NW htt
  have hXU := lw_XU htt
  have hXZ := lw_XZ htt hgv
  have hNc := lw_Nc hgv
  have hlt := lw_lt hflags
  have hAO : va_AO RX0 s := va_AO.of (htt (.arrayOver (.object RX0)) (by decide +kernel))
  have hA : ∀ q : Nat, s.heap.size ≤ q → LwA s q := fun _ h => h
  have hS : va_S (LwA s) s.heap s.heap [] := va_S.rf
  have hP : va_P D vwCl [] s.heap := fun k q h => by simp at h
  have hD : va_D (LwA s) [] := ⟨fun i j p q h => by simp at h, fun k q h => by simp at h⟩
  have hl := lv_entry ([.ref b]) (n := 9) (Nat.le_of_ble_eq_true rfl)
  rw [lg_entry_eq]
  generalize (lg_sl ([.ref b]) ++ List.replicate (9 - (lg_sl ([.ref b])).length) Slot.unset).toArray = ls at hl ⊢
  have hl : lv_has ls 9 [(0, .ref b)] := hl
  refine va_new (ci := 3) (fs := [.null, .null, .int 0, .null, .null, .null]) (C := RX3) (T := TX3) (N := 6) hx hb htt inX3 tyX3 tyX3_ok hown (hts (.classLink RL 8 RX3) (by decide +kernel)) (hts (.instantiable RX3 6) (by decide +kernel)) (hts (.initialized RX3) (by decide +kernel)) hK hP hD hS hA rfl (fun j hj => by rcases (show j = 0 ∨ j = 1 ∨ j = 2 ∨ j = 3 ∨ j = 4 ∨ j = 5 by omega) with rfl | rfl | rfl | rfl | rfl | rfl <;> rfl) (Nat.le_of_ble_eq_true rfl) (Nat.le_of_ble_eq_true rfl) dL_law_0 (fun q0 H hPa hDa hS => ?_)
  clear hP hD
  have hP : va_P D vwCl [(q0, .inr (3, [.null, .null, .int 0, .null, .null, .null]))] H := hPa
  have hD : va_D (LwA s) [(q0, .inr (3, [.null, .null, .int 0, .null, .null, .null]))] := hDa
  clear hPa hDa
  refine lv_dup hx hb dL_law_3 rfl ?_
  have hF := va_free (wc := [(q0, .inr (3, [.null, .null, .int 0, .null, .null, .null]))]) hD hS hA [0] rfl
  refine va_callv (va_runI (As := []) (rest := [.ref q0]) (b := q0) ⟨hx, hb, hml, hown, hts⟩ (c_X3_init l D T q0 _) ⟨callB_of 0 hts gL_law_X3_init rfl rfl rfl (hts (.initialized RX3) (by decide +kernel)) (hts (.methodLink RL 66 yX3_init) (by decide +kernel)) (by decide +kernel) ⟨Nat.le_of_ble_eq_true rfl, Nat.le_of_ble_eq_true rfl⟩, rfl, (hts (.instanceMethod yX3_init) (by decide +kernel))⟩ ⟨IP.blind, IP.pre hP hD hK hN hAO rfl⟩ rfl rfl hl.1 rfl (lv_room (Nat.le_of_ble_eq_true rfl)) dL_law_4 ⟨Nat.le_of_ble_eq_true rfl, Nat.le_of_ble_eq_true rfl⟩) hS (fun q _ h => hF q h) hF (fun ad t H1 locs ht hvm hw hB hz1 hk1 hS => ?_)
  obtain ⟨hP1, hAD, hin3⟩ := hB
  rw [ht] at hP1
  obtain ⟨hP9, hD9⟩ := va_join (wr := []) (w1 := cw T ad (fun _ => 0) (fun _ _ => 0)) hP hD [0] [] rfl rfl (by decide) (by decide) hk1 hF hP1 (cw_D hAD hin3)
  clear hP hD hP1 hk1 hz1 hF hin3
  have hP : va_P D vwCl (cw T ad (fun _ => 0) (fun _ _ => 0)) H1 := hP9
  have hD : va_D (LwA s) (cw T ad (fun _ => 0) (fun _ _ => 0)) := hD9
  clear hP9 hD9
  subst hw
  refine lv_astore_n (lv' := [(1, .ref (ad 0)), (0, .ref b)]) hx hb dL_law_7 rfl hl (by decide) rfl (fun ls hl => ?_)
  refine va_new (ci := 4) (fs := [.int 0, .null, .null, .int 0, .null, .null, .null, .int 0, .int 0, .int 0, .int 0, .null]) (C := RX4) (T := TX4) (N := 12) hx hb htt inX4 tyX4 tyX4_ok hown (hts (.classLink RL 67 RX4) (by decide +kernel)) (hts (.instantiable RX4 12) (by decide +kernel)) (hts (.initialized RX4) (by decide +kernel)) hK hP hD hS hA rfl (fun j hj => by rcases (show j = 0 ∨ j = 1 ∨ j = 2 ∨ j = 3 ∨ j = 4 ∨ j = 5 ∨ j = 6 ∨ j = 7 ∨ j = 8 ∨ j = 9 ∨ j = 10 ∨ j = 11 by omega) with rfl | rfl | rfl | rfl | rfl | rfl | rfl | rfl | rfl | rfl | rfl | rfl <;> rfl) (Nat.le_of_ble_eq_true rfl) (Nat.le_of_ble_eq_true rfl) dL_law_8 (fun q1 H hPa hDa hS => ?_)
  clear hP hD
  have hP := hPa
  have hD := hDa
  clear hPa hDa
  refine lv_dup hx hb dL_law_11 rfl ?_
  have hPc := hP.sub (ws' := [(q1, .inr (4, [.int 0, .null, .null, .int 0, .null, .null, .null, .int 0, .int 0, .int 0, .int 0, .null]))]) [34] rfl
  have hDc := hD.sub (ws' := [(q1, .inr (4, [.int 0, .null, .null, .int 0, .null, .null, .null, .int 0, .int 0, .int 0, .int 0, .null]))]) [34] (by decide) rfl
  have hF := va_free (wc := [(q1, .inr (4, [.int 0, .null, .null, .int 0, .null, .null, .null, .int 0, .int 0, .int 0, .int 0, .null]))]) hD hS hA [34] rfl
  refine va_callv (va_runI (As := []) (rest := [.ref q1]) (b := q1) ⟨hx, hb, hml, hown, hts⟩ (c_X4_init l D T q1 _) ⟨callB_of 0 hts gL_law_X4_init rfl rfl rfl (hts (.initialized RX4) (by decide +kernel)) (hts (.methodLink RL 69 yX4_init) (by decide +kernel)) (by decide +kernel) ⟨Nat.le_of_ble_eq_true rfl, Nat.le_of_ble_eq_true rfl⟩, rfl, (hts (.instanceMethod yX4_init) (by decide +kernel))⟩ ⟨IP.blind, IP.pre hPc hDc hK hN hAO rfl⟩ rfl rfl hl.1 rfl (lv_room (Nat.le_of_ble_eq_true rfl)) dL_law_12 ⟨Nat.le_of_ble_eq_true rfl, Nat.le_of_ble_eq_true rfl⟩) hS (fun q _ h => hF q h) hF (fun ad2 t H1 locs ht2 hvm hw hB hz1 hk1 hS => ?_)
  obtain ⟨hP1, hAD2, hin4⟩ := hB
  rw [ht2] at hP1
  obtain ⟨hP9, hD9⟩ := va_join (wr := cw T ad (fun _ => 0) (fun _ _ => 0)) (w1 := mw T ad2 (fun _ => 0) (fun _ _ => 0)) hP hD [34] (List.range 34) rfl rfl (by decide) (by decide) hk1 hF hP1 (mw_D hAD2 hin4)
  clear hP hD hP1 hk1 hz1 hF hin4 hPc hDc
  have hP := hP9
  have hD := hD9
  clear hP9 hD9
  subst hw
  refine lv_astore_n (lv' := [(2, .ref (ad2 0)), (1, .ref (ad 0)), (0, .ref b)]) hx hb dL_law_15 rfl hl (by decide) rfl (fun ls hl => ?_)
  refine lv_iconst (v := 1) hx hb dL_law_16 (by decide) ?_
  refine cx_newl hx hb (hts (.arrayClass .long) (by decide +kernel)) hK hP hD hS hA 1 (by decide) rfl (by decide) (Nat.le_of_ble_eq_true rfl) (Nat.le_of_ble_eq_true rfl) dL_law_17 (fun ao H hP hD hS => ?_)
  have hD : va_D (LwA s) ((cw T ad (fun _ => 0) (fun _ _ => 0) ++ mw T ad2 (fun _ => 0) (fun _ _ => 0)) ++ ow T ao (fun _ => 0)) := hD
  have hP : va_P D vwCl ((cw T ad (fun _ => 0) (fun _ _ => 0) ++ mw T ad2 (fun _ => 0) (fun _ _ => 0)) ++ ow T ao (fun _ => 0)) H := hP
  obtain ⟨hap, hao, hao2, hgo⟩ := lw_apart hD
  have hPC : va_P D vwCl (cw T ad (fun _ => 0) (fun _ _ => 0)) H := hP.sub (List.range 34) rfl
  have hPM : va_P D vwCl (mw T ad2 (fun _ => 0) (fun _ _ => 0)) H := hP.sub ((List.range 7).map (fun k => 34 + k)) rfl
  have hPO : va_P D vwCl (ow T ao (fun _ => 0)) H := hP.sub [41] rfl
  have hge : ∀ k, k < 34 → s.heap.size ≤ ad k := (cw_AD (hD.sub (ws' := cw T ad (fun _ => 0) (fun _ _ => 0)) (List.range 34) (by decide) rfl)).2
  have hge2 : ∀ k, k < 7 → s.heap.size ≤ ad2 k := (mw_AD (hD.sub (ws' := mw T ad2 (fun _ => 0) (fun _ _ => 0)) ((List.range 7).map (fun k => 34 + k)) (by decide) rfl)).2
  refine lv_astore_n (lv' := [(3, .ref ao), (2, .ref (ad2 0)), (1, .ref (ad 0)), (0, .ref b)]) hx hb dL_law_19 rfl hl (by decide) rfl (fun ls hl => ?_)
  refine lv_iconst (v := nI 0) hx hb dL_law_20 (by decide) ?_
  refine lv_istore (lv' := [(4, .int (nI 0)), (3, .ref ao), (2, .ref (ad2 0)), (1, .ref (ad 0)), (0, .ref b)]) hx hb dL_law_21 hl (by decide) rfl (fun ls hl => ?_)
  have F0 : LwF p l s m c #[Value.ref b] D T ad ad2 ao b L xs := ⟨hx, hb, hml, hown, hts, hK, hN, hXU, hXZ, hNc, hAD, hAD2, hap, hao, hao2, hge, hge2, hgo, hX, hbl, hlt, hL⟩
  refine lw_loop F0 (fun H locs ls cells slots hS hc hs => ?_) L 0 H _ ls _ _ (by omega) (by omega) ⟨_, _, _, _, _, 0, 0, 0, 0, 0, hPC, hPM, hPO, st_zero⟩ hS (lv_sub hl [4, 3, 2, 1, 0] rfl) (by decide) (by decide)
  refine lv_iconst (v := 1) hx hb dL_law_1243 (by decide) ?_
  refine va_forget hS.2.2 (W.widen hc hs ?_)
  exact lw_ret (Drawn.sameBut.refl s.drawn lw_cs) hx hb hr hlocks dL_law_1244

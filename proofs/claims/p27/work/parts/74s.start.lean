set_option maxHeartbeats 4000000 in
set_option maxRecDepth 100000 in
theorem whole_start {p : Program} {e : Env} {s : State} {m : MethodId} {below : List Frame} {meth : Method} {c : Code} (l : Launch) (hflags : l.flags = flags0) {b L : Nat} {xs : Nat → Int32} (hL : L ≤ 260) (C0 : lw_At p s m meth c b L xs) : W p l e room_1 s m #[Value.ref b] below meth c s.heap [] 0 0 (lw_Z below #[Value.ref b] s) (entryFrame m ([Value.ref b] : List Value).toArray 11) := by
  obtain ⟨hx, hb, hr, hml, hown0, htt, hX, hbl, hlocks, hgv⟩ := C0
  have hown : s.vm.findClass RL = some m.cls := hown0
  have hts : ∀ w ∈ wsL_law, w.before #[Value.ref b] s = true := fun w hw => htt w (wsL_law_in w hw)
  obtain ⟨D, T, hK⟩ := lw_K htt
  have hN := lw_NW htt
  have hXU := lw_XU htt
  have hXZ := lw_XZ htt hgv
  have hNc := lw_Nc hgv
  have hlt := lw_lt hflags
  have hAO : va_AO RX0 s := va_AO.of (htt (.arrayOver (.object RX0)) (by decide +kernel))
  have hA : ∀ q : Nat, s.heap.size ≤ q → LwA s q := fun _ h => h
  have hS : va_S (LwA s) s.heap s.heap [] := va_S.rf
  have hP : va_P D vwCl [] s.heap := fun k q h => by simp at h
  have hD : va_D (LwA s) [] := ⟨fun i j p q h => by simp at h, fun k q h => by simp at h⟩
  have hl := lv_entry ([.ref b]) (n := 11) (Nat.le_of_ble_eq_true rfl)
  rw [lg_entry_eq]
  generalize (lg_sl ([.ref b]) ++ List.replicate (11 - (lg_sl ([.ref b])).length) Slot.unset).toArray = ls at hl ⊢
  have hl : lv_has ls 11 [(0, .ref b)] := hl
  refine va_new (ci := 3) (fs := [.null, .null, .int 0, .null, .null, .null]) (C := RX3) (T := TX3) (N := 6) hx hb htt inX3 tyX3 tyX3_ok hown (hts (.classLink RL 10 RX3) (by decide +kernel)) (hts (.instantiable RX3 6) (by decide +kernel)) (hts (.initialized RX3) (by decide +kernel)) hK hP hD hS hA rfl (fun j hj => by rcases (show j = 0 ∨ j = 1 ∨ j = 2 ∨ j = 3 ∨ j = 4 ∨ j = 5 by omega) with rfl | rfl | rfl | rfl | rfl | rfl <;> rfl) (Nat.le_of_ble_eq_true rfl) (Nat.le_of_ble_eq_true rfl) dL_law_0 (fun q0 H hPa hDa hS => ?_)
  clear hP hD
  have hP : va_P D vwCl [(q0, .inr (3, [.null, .null, .int 0, .null, .null, .null]))] H := hPa
  have hD : va_D (LwA s) [(q0, .inr (3, [.null, .null, .int 0, .null, .null, .null]))] := hDa
  clear hPa hDa
  refine lv_dup hx hb dL_law_3 rfl ?_
  have hF := va_free (wc := [(q0, .inr (3, [.null, .null, .int 0, .null, .null, .null]))]) hD hS hA [0] rfl
  refine va_callv (va_runI (As := []) (rest := [.ref q0]) (b := q0) ⟨hx, hb, hml, hown, hts⟩ (c_X3_init l D T q0 _) ⟨callB_of 0 hts gL_law_X3_init rfl rfl rfl (hts (.initialized RX3) (by decide +kernel)) (hts (.methodLink RL 114 yX3_init) (by decide +kernel)) (by decide +kernel) ⟨Nat.le_of_ble_eq_true rfl, Nat.le_of_ble_eq_true rfl⟩, rfl, (hts (.instanceMethod yX3_init) (by decide +kernel))⟩ ⟨IP.blind, IP.pre hP hD hK hN hAO rfl⟩ rfl rfl hl.1 rfl (lv_room (Nat.le_of_ble_eq_true rfl)) dL_law_4 ⟨Nat.le_of_ble_eq_true rfl, Nat.le_of_ble_eq_true rfl⟩) hS (fun q _ h => hF q h) hF (fun ad t H1 locs ht hvm hw hB hz1 hk1 hS => ?_)
  obtain ⟨hP1, hAD, hin3⟩ := hB
  rw [ht] at hP1
  obtain ⟨hP9, hD9⟩ := va_join (wr := []) (w1 := cw T ad (fun _ => 0) (fun _ _ => 0)) hP hD [0] [] rfl rfl (by decide) (by decide) hk1 hF hP1 (cw_D hAD hin3)
  clear hP hD hP1 hk1 hz1 hF hin3
  have hP : va_P D vwCl (cw T ad (fun _ => 0) (fun _ _ => 0)) H1 := hP9
  have hD : va_D (LwA s) (cw T ad (fun _ => 0) (fun _ _ => 0)) := hD9
  clear hP9 hD9
  subst hw
  refine lv_astore_n (lv' := [(1, .ref (ad 0)), (0, .ref b)]) hx hb dL_law_7 rfl hl (by decide) rfl (fun ls hl => ?_)
  refine lv_bipush (v := 8) hx hb dL_law_8 (by decide) ?_
  refine cx_newi hx hb (hts (.arrayClass .int) (by decide +kernel)) hK hP hD hS hA 8 (by decide) rfl (by decide) (Nat.le_of_ble_eq_true rfl) (Nat.le_of_ble_eq_true rfl) dL_law_10 (fun q2 H hP hD hS => ?_)
  refine lv_astore_n (lv' := [(2, .ref q2), (1, .ref (ad 0)), (0, .ref b)]) hx hb dL_law_12 rfl hl (by decide) rfl (fun ls hl => ?_)
  refine lv_bipush (v := 8) hx hb dL_law_13 (by decide) ?_
  refine cx_newi hx hb (hts (.arrayClass .int) (by decide +kernel)) hK hP hD hS hA 8 (by decide) rfl (by decide) (Nat.le_of_ble_eq_true rfl) (Nat.le_of_ble_eq_true rfl) dL_law_15 (fun q3 H hP hD hS => ?_)
  refine lv_astore_n (lv' := [(3, .ref q3), (2, .ref q2), (1, .ref (ad 0)), (0, .ref b)]) hx hb dL_law_17 rfl hl (by decide) rfl (fun ls hl => ?_)
  refine lv_bipush (v := 8) hx hb dL_law_18 (by decide) ?_
  refine cx_newi hx hb (hts (.arrayClass .int) (by decide +kernel)) hK hP hD hS hA 8 (by decide) rfl (by decide) (Nat.le_of_ble_eq_true rfl) (Nat.le_of_ble_eq_true rfl) dL_law_20 (fun q4 H hP hD hS => ?_)
  refine lv_astore (lv' := [(4, .ref q4), (3, .ref q3), (2, .ref q2), (1, .ref (ad 0)), (0, .ref b)]) hx hb dL_law_22 hl (by decide) rfl (fun ls hl => ?_)
  refine lv_bipush (v := 8) hx hb dL_law_24 (by decide) ?_
  refine cx_newi hx hb (hts (.arrayClass .int) (by decide +kernel)) hK hP hD hS hA 8 (by decide) rfl (by decide) (Nat.le_of_ble_eq_true rfl) (Nat.le_of_ble_eq_true rfl) dL_law_26 (fun q5 H hP hD hS => ?_)
  refine lv_astore (lv' := [(5, .ref q5), (4, .ref q4), (3, .ref q3), (2, .ref q2), (1, .ref (ad 0)), (0, .ref b)]) hx hb dL_law_28 hl (by decide) rfl (fun ls hl => ?_)
  refine lv_iconst (v := 1) hx hb dL_law_30 (by decide) ?_
  refine cx_newi hx hb (hts (.arrayClass .int) (by decide +kernel)) hK hP hD hS hA 1 (by decide) rfl (by decide) (Nat.le_of_ble_eq_true rfl) (Nat.le_of_ble_eq_true rfl) dL_law_31 (fun q6 H hP hD hS => ?_)
  refine lv_astore (lv' := [(6, .ref q6), (5, .ref q5), (4, .ref q4), (3, .ref q3), (2, .ref q2), (1, .ref (ad 0)), (0, .ref b)]) hx hb dL_law_33 hl (by decide) rfl (fun ls hl => ?_)
  have hP := pw_new5 hP
  have hD := pw_new5D hD
  have hl : lv_has ls 11 [(6, .ref (ad5 ad q2 q3 q4 q5 q6 38)), (5, .ref (ad5 ad q2 q3 q4 q5 q6 37)), (4, .ref (ad5 ad q2 q3 q4 q5 q6 36)), (3, .ref (ad5 ad q2 q3 q4 q5 q6 35)), (2, .ref (ad5 ad q2 q3 q4 q5 q6 34)), (1, .ref (ad5 ad q2 q3 q4 q5 q6 0)), (0, .ref b)] := hl
  generalize ad5 ad q2 q3 q4 q5 q6 = ad2 at hP hD hl
  obtain ⟨hAD2, hge2⟩ := pw_AD hD
  have F0 : LwF p l s m c #[Value.ref b] D T ad2 b L xs := ⟨hx, hb, hml, hown, hts, hK, hN, hXU, hXZ, hNc, hAD2, hge2, hX, hbl, hlt, hL⟩
  refine lw_begin F0 hP hS hl (Nat.le_of_ble_eq_true rfl) (Nat.le_of_ble_eq_true rfl) (fun H locs ls cells slots J hS hl hc hs => ?_)
  refine lw_end F0 J hS hl hc hs (fun H locs ls cells slots hS hc hs => ?_)
  refine va_forget hS.2.2 (W.widen hc hs ?_)
  exact lw_ret (Drawn.sameBut.refl s.drawn lw_cs) hx hb hr hlocks dL_law_320

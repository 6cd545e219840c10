/-! the law's loop -/
theorem lp_toInt {L : Nat} (hL : L ≤ 1536) : (nI L - 3).toInt = (L : Int) - 3 := by
  have e : (3 : Int32).toInt = 3 := rfl
  rw [Int32.toInt_sub, nI_toInt (by omega), e, Int.bmod_eq_of_le] <;> omega
theorem lp_gt {L i : Nat} (hL : L ≤ 1536) (hi : i ≤ 1539) (h : ¬ nI L - 3 < nI i) : i + 2 < L := by
  have h1 := Int32.le_iff_toInt_le.mp (Int32.not_lt.mp h)
  rw [lp_toInt hL, nI_toInt (by omega)] at h1
  omega
set_option maxHeartbeats 4000000 in
set_option maxRecDepth 100000 in
theorem lw_step {p : Program} {l : Launch} {e : Env} {s : State} {m : MethodId} {args : Array Value} {below : List Frame} {meth : Method} {c : Code} {Q : State → Prop} {D : va_G} {T : Nat → ClassId} {ad ad2 : Nat → Nat} {ao : Nat} {b : Addr} {L : Nat} {xs : Nat → Int32} (C0 : LwF p l s m c args D T ad ad2 ao b L xs)
    (kE : ∀ (H : Heap) (locs : List Loc) (ls : Array Slot) (cells slots : Nat), va_S (LwA s) s.heap H locs → cells ≤ 649774 → slots ≤ 7146782 → W p l e room_1 s m args below meth c H locs cells slots Q (F0 m 1243 ls []))
    {i : Nat} (kL : ∀ (H : Heap) (locs : List Loc) (ls : Array Slot) (cells slots : Nat), i + 2 < L → LJ D T ad ad2 ao H → va_S (LwA s) s.heap H locs → lv_has ls 9 (lwLv b ad ad2 ao (i + 3)) → cells ≤ 1001 + i → slots ≤ 9006 + 6 * i → W p l e room_1 s m args below meth c H locs cells slots Q (F0 m 23 ls []))
    {H : Heap} {locs : List Loc} {ls : Array Slot} {cells slots : Nat} (h2 : i ≤ 1539) (J : LJ D T ad ad2 ao H) (hS : va_S (LwA s) s.heap H locs) (hl : lv_has ls 9 (lwLv b ad ad2 ao i)) (hc : cells ≤ 1000 + i) (hs : slots ≤ 9000 + 6 * i) : W p l e room_1 s m args below meth c H locs cells slots Q (F0 m 23 ls []) := by
  have C1 := C0
  obtain ⟨hx, hb, -, -, -, -, -, -, -, -, -, -, -, -, -, -, -, -, hX, hbl, -, hL⟩ := C1
  refine lv_iload hx hb dL_law_23 (lv_at hl 4 rfl) ?_
  refine lv_aload_n hx hb dL_law_25 rfl (lv_at hl 0 rfl) ?_
  refine va_slen hx hb hX hbl (Nat.not_le.mpr hbl) hS dL_law_26 ?_
  refine lv_iconst (v := 3) hx hb dL_law_27 (by decide) ?_
  refine lv_isub hx hb dL_law_28 ?_
  refine lv_icmp_gt (tgt := 1243) hx hb dL_law_29 (by decide) (fun _ => kE H locs ls cells slots hS (by omega) (by omega)) (fun h => ?_)
  have hi : i + 2 < L := lp_gt hL h2 h
  have hcc : cells + 1 ≤ 649774 := by omega
  have hss : slots + 6 ≤ 7146782 := by omega
  refine lv_aload_n hx hb dL_law_32 rfl (lv_at hl 0 rfl) ?_
  refine lv_iload hx hb dL_law_33 (lv_at hl 4 rfl) ?_
  refine va_sld hx hb hX hbl (Nat.not_le.mpr hbl) hS (vp_in_nI (by omega) (by omega)) dL_law_35 ?_
  refine lv_bipush (v := 31) hx hb dL_law_36 (by decide) ?_
  refine lv_iand hx hb dL_law_38 ?_
  obtain ⟨j, hj, ej⟩ := pk_andE (xs (nI i).toNatClampNeg) (m := 31) 5 (by decide)
  rw [ej]
  have kN : LwK p l e s m args below meth c Q D T ad ad2 ao b i cells slots := fun H1 locs1 ls1 c1 s1 J1 hS1 hl1 hc1 hs1 => by
    refine lv_iinc (k := 4) (v := nI (i + 3)) (lv' := [(4, .int (nI (i + 3))), (0, .ref b), (1, .ref (ad 0)), (2, .ref (ad2 0)), (3, .ref ao)]) hx hb dL_law_1237 hl1 rfl (nI_add i 3) (by decide) rfl (fun ls2 hl2 => ?_)
    refine lv_goto (tgt := 23) hx hb dL_law_1240 (by decide) ?_
    exact kL H1 locs1 ls2 c1 s1 hi J1 hS1 (lv_sub hl2 [1, 2, 3, 4, 0] rfl) (by omega) (by omega)
  rcases (show j = 0 ∨ j = 1 ∨ j = 2 ∨ j = 3 ∨ j = 4 ∨ j = 5 ∨ j = 6 ∨ j = 7 ∨ j = 8 ∨ j = 9 ∨ j = 10 ∨ j = 11 ∨ j = 12 ∨ j = 13 ∨ j = 14 ∨ j = 15 ∨ j = 16 ∨ j = 17 ∨ j = 18 ∨ j = 19 ∨ j = 20 ∨ j = 21 ∨ j = 22 ∨ j = 23 ∨ 24 ≤ j by omega) with rfl | rfl | rfl | rfl | rfl | rfl | rfl | rfl | rfl | rfl | rfl | rfl | rfl | rfl | rfl | rfl | rfl | rfl | rfl | rfl | rfl | rfl | rfl | rfl | hj2
  · refine lv_tableIn (off := 109) (tgt := 148) hx hb dL_law_39 (by decide) (by decide) (by decide) (by decide) ?_
    exact lc_set C0 J hS hl hi hcc hss kN
  · refine lv_tableIn (off := 177) (tgt := 216) hx hb dL_law_39 (by decide) (by decide) (by decide) (by decide) ?_
    exact lc_lose C0 J hS hl hi hcc hss kN
  · refine lv_tableIn (off := 233) (tgt := 272) hx hb dL_law_39 (by decide) (by decide) (by decide) (by decide) ?_
    exact lc_turn C0 J hS hl hi hcc hss kN
  · refine lv_tableIn (off := 289) (tgt := 328) hx hb dL_law_39 (by decide) (by decide) (by decide) (by decide) ?_
    exact lc_drop C0 J hS hl hi hcc hss kN
  · refine lv_tableIn (off := 345) (tgt := 384) hx hb dL_law_39 (by decide) (by decide) (by decide) (by decide) ?_
    exact lc_point C0 J hS hl hi hcc hss kN
  · refine lv_tableIn (off := 413) (tgt := 452) hx hb dL_law_39 (by decide) (by decide) (by decide) (by decide) ?_
    exact lc_copy C0 J hS hl hi hcc hss kN
  · refine lv_tableIn (off := 426) (tgt := 465) hx hb dL_law_39 (by decide) (by decide) (by decide) (by decide) ?_
    exact lc_fit C0 J hS hl hi hcc hss kN
  · refine lv_tableIn (off := 439) (tgt := 478) hx hb dL_law_39 (by decide) (by decide) (by decide) (by decide) ?_
    exact lc_append C0 J hS hl hi hcc hss kN
  · refine lv_tableIn (off := 495) (tgt := 534) hx hb dL_law_39 (by decide) (by decide) (by decide) (by decide) ?_
    exact lc_clearBuffer C0 J hS hl hi hcc hss kN
  · refine lv_tableIn (off := 508) (tgt := 547) hx hb dL_law_39 (by decide) (by decide) (by decide) (by decide) ?_
    exact lc_firstError C0 J hS hl hi hcc hss kN
  · refine lv_tableIn (off := 521) (tgt := 560) hx hb dL_law_39 (by decide) (by decide) (by decide) (by decide) ?_
    exact lc_load C0 J hS hl hi hcc hss kN
  · refine lv_tableIn (off := 565) (tgt := 604) hx hb dL_law_39 (by decide) (by decide) (by decide) (by decide) ?_
    exact lc_keep C0 J hS hl hi hcc hss kN
  · refine lv_tableIn (off := 621) (tgt := 660) hx hb dL_law_39 (by decide) (by decide) (by decide) (by decide) ?_
    exact lc_goBack C0 J hS hl hi hcc hss kN
  · refine lv_tableIn (off := 677) (tgt := 716) hx hb dL_law_39 (by decide) (by decide) (by decide) (by decide) ?_
    exact lc_undo C0 J hS hl hi hcc hss kN
  · refine lv_tableIn (off := 721) (tgt := 760) hx hb dL_law_39 (by decide) (by decide) (by decide) (by decide) ?_
    exact lc_wheelOf C0 J hS hl hi hcc hss kN
  · refine lv_tableIn (off := 789) (tgt := 828) hx hb dL_law_39 (by decide) (by decide) (by decide) (by decide) ?_
    exact lc_trace C0 J hS hl hi hcc hss kN
  · refine lv_tableIn (off := 857) (tgt := 896) hx hb dL_law_39 (by decide) (by decide) (by decide) (by decide) ?_
    exact lc_pointOf C0 J hS hl hi hcc hss kN
  · refine lv_tableIn (off := 925) (tgt := 964) hx hb dL_law_39 (by decide) (by decide) (by decide) (by decide) ?_
    exact lc_count C0 J hS hl hi hcc hss kN
  · refine lv_tableIn (off := 981) (tgt := 1020) hx hb dL_law_39 (by decide) (by decide) (by decide) (by decide) ?_
    exact lc_findLost C0 J hS hl hi hcc hss kN
  · refine lv_tableIn (off := 994) (tgt := 1033) hx hb dL_law_39 (by decide) (by decide) (by decide) (by decide) ?_
    exact lc_enough C0 J hS hl hi hcc hss kN
  · refine lv_tableIn (off := 1062) (tgt := 1101) hx hb dL_law_39 (by decide) (by decide) (by decide) (by decide) ?_
    exact lc_ifTurned C0 J hS hl hi hcc hss kN
  · refine lv_tableIn (off := 1130) (tgt := 1169) hx hb dL_law_39 (by decide) (by decide) (by decide) (by decide) ?_
    exact lc_bestTurn C0 J hS hl hi hcc hss kN
  · refine lv_tableIn (off := 1143) (tgt := 1182) hx hb dL_law_39 (by decide) (by decide) (by decide) (by decide) ?_
    exact lc_mainShare C0 J hS hl hi hcc hss kN
  · refine lv_tableIn (off := 1184) (tgt := 1223) hx hb dL_law_39 (by decide) (by decide) (by decide) (by decide) ?_
    exact lc_digest C0 J hS hl hi hcc hss kN
  · have e24 : (nI j).toInt = (j : Int) := nI_toInt (by omega)
    refine lv_tableOut (tgt := 1237) hx hb dL_law_39 (Or.inr (by rw [e24]; omega)) (by decide) ?_
    exact kN H locs ls cells slots J hS hl (by omega) (by omega)
set_option maxHeartbeats 4000000 in
set_option maxRecDepth 100000 in
theorem lw_loop {p : Program} {l : Launch} {e : Env} {s : State} {m : MethodId} {args : Array Value} {below : List Frame} {meth : Method} {c : Code} {Q : State → Prop} {D : va_G} {T : Nat → ClassId} {ad ad2 : Nat → Nat} {ao : Nat} {b : Addr} {L : Nat} {xs : Nat → Int32} (C0 : LwF p l s m c args D T ad ad2 ao b L xs)
    (kE : ∀ (H : Heap) (locs : List Loc) (ls : Array Slot) (cells slots : Nat), va_S (LwA s) s.heap H locs → cells ≤ 649774 → slots ≤ 7146782 → W p l e room_1 s m args below meth c H locs cells slots Q (F0 m 1243 ls [])) :
    ∀ (n i : Nat) (H : Heap) (locs : List Loc) (ls : Array Slot) (cells slots : Nat), L ≤ i + n → i ≤ 1539 → LJ D T ad ad2 ao H → va_S (LwA s) s.heap H locs → lv_has ls 9 (lwLv b ad ad2 ao i) → cells ≤ 1000 + i → slots ≤ 9000 + 6 * i → W p l e room_1 s m args below meth c H locs cells slots Q (F0 m 23 ls []) := by
  intro n
  induction n with
  | zero => intro i H locs ls cells slots h1 h2 J hS hl hc hs; exact lw_step C0 kE (fun i2 H locs ls cells slots h => absurd h (by omega)) h2 J hS hl hc hs
  | succ n ih => intro i H locs ls cells slots h1 h2 J hS hl hc hs; exact lw_step C0 kE (fun H1 locs1 ls1 c1 s1 h J1 hS1 hl1 hc1 hs1 => ih (i + 3) H1 locs1 ls1 c1 s1 (by omega) (by have := C0.2.2.2.2.2.2.2.2.2.2.2.2.2.2.2.2.2.2.2.2.2; omega) J1 hS1 hl1 (by omega) (by omega)) h2 J hS hl hc hs

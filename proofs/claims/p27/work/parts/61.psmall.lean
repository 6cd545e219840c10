/-! what the law's small methods answer -/
def loN (v : Int32) : Nat := v.toBitVec.toNat % 2 ^ 31
theorem lo_lt (v : Int32) : loN v < 2 ^ 31 := Nat.mod_lt _ (Nat.two_pow_pos 31)
theorem nI_n0 {n : Nat} (h0 : 0 < n) (h1 : n < 2147483648) : ¬ nI n = 0 := fun e => by
  have h := congrArg Int32.toInt e
  rw [nI_toInt (by omega)] at h
  have e0 : (0 : Int32).toInt = 0 := rfl
  omega
theorem am_t {v : Int32} (h : 0 ≤ v) : v = abI v := by unfold abI; rw [if_pos h]
theorem am_f {v : Int32} (h : ¬ 0 ≤ v) : -v = abI v := by unfold abI; rw [if_neg h, Int32.zero_sub]
theorem ei_ok {v : Int32} (h1 : -90000 ≤ v.toInt) (h2 : v.toInt ≤ 90000) : (v + 8000000) / 8 - 1000000 = v >>> (3 : Int32) := by
  apply Int32.toInt_inj.mp
  have e1 : (8000000 : Int32).toInt = 8000000 := by decide
  have e2 : (1000000 : Int32).toInt = 1000000 := by decide
  have ea : (v + 8000000).toInt = v.toInt + 8000000 := by
    rw [Int32.toInt_add, e1, Int.bmod_eq_of_le] <;> omega
  have ed : ((v + 8000000) / 8).toInt = (v.toInt + 8000000) / 8 := by
    rw [div8, ea, Int.tdiv_eq_ediv_of_nonneg (by omega)]
  rw [Int32.toInt_sub, ed, e2, shr3, Int.bmod_eq_of_le] <;> omega
theorem dq_t {a b : Nat → Int32} {lm i : Nat} (hb : b = lbI lm) (h : ¬ b i = 1) : a i = dr a lm i := by
  rw [hb] at h; exact dr_t (lb_ne1 h)
theorem dq_f {a b : Nat → Int32} {lm i : Nat} (hb : b = lbI lm) (h : b i = 1) : 0 = dr a lm i := by
  rw [hb] at h; exact dr_f (by rw [h]; decide)
theorem wl_ttt : ∀ k, k < 8 → ∀ n, n < 8 → ¬ ((nI (k / 1) &&& nI (n / 1)) &&& 1 = 1) → ¬ ((nI (k / 2) &&& nI (n / 2)) &&& 1 = 1) → ¬ ((nI (k / 4) &&& nI (n / 4)) &&& 1 = 1) → (1 : Int32) = wv k n := by decide +kernel
theorem wl_ttf : ∀ k, k < 8 → ∀ n, n < 8 → ¬ ((nI (k / 1) &&& nI (n / 1)) &&& 1 = 1) → ¬ ((nI (k / 2) &&& nI (n / 2)) &&& 1 = 1) → ((nI (k / 4) &&& nI (n / 4)) &&& 1 = 1) → (-1 : Int32) = wv k n := by decide +kernel
theorem wl_tft : ∀ k, k < 8 → ∀ n, n < 8 → ¬ ((nI (k / 1) &&& nI (n / 1)) &&& 1 = 1) → ((nI (k / 2) &&& nI (n / 2)) &&& 1 = 1) → ¬ ((nI (k / 4) &&& nI (n / 4)) &&& 1 = 1) → (-1 : Int32) = wv k n := by decide +kernel
theorem wl_tff : ∀ k, k < 8 → ∀ n, n < 8 → ¬ ((nI (k / 1) &&& nI (n / 1)) &&& 1 = 1) → ((nI (k / 2) &&& nI (n / 2)) &&& 1 = 1) → ((nI (k / 4) &&& nI (n / 4)) &&& 1 = 1) → (-(-1) : Int32) = wv k n := by decide +kernel
theorem wl_ftt : ∀ k, k < 8 → ∀ n, n < 8 → ((nI (k / 1) &&& nI (n / 1)) &&& 1 = 1) → ¬ ((nI (k / 2) &&& nI (n / 2)) &&& 1 = 1) → ¬ ((nI (k / 4) &&& nI (n / 4)) &&& 1 = 1) → (-1 : Int32) = wv k n := by decide +kernel
theorem wl_ftf : ∀ k, k < 8 → ∀ n, n < 8 → ((nI (k / 1) &&& nI (n / 1)) &&& 1 = 1) → ¬ ((nI (k / 2) &&& nI (n / 2)) &&& 1 = 1) → ((nI (k / 4) &&& nI (n / 4)) &&& 1 = 1) → (-(-1) : Int32) = wv k n := by decide +kernel
theorem wl_fft : ∀ k, k < 8 → ∀ n, n < 8 → ((nI (k / 1) &&& nI (n / 1)) &&& 1 = 1) → ((nI (k / 2) &&& nI (n / 2)) &&& 1 = 1) → ¬ ((nI (k / 4) &&& nI (n / 4)) &&& 1 = 1) → (-(-1) : Int32) = wv k n := by decide +kernel
theorem wl_fff : ∀ k, k < 8 → ∀ n, n < 8 → ((nI (k / 1) &&& nI (n / 1)) &&& 1 = 1) → ((nI (k / 2) &&& nI (n / 2)) &&& 1 = 1) → ((nI (k / 4) &&& nI (n / 4)) &&& 1 = 1) → (-(-(-1)) : Int32) = wv k n := by decide +kernel

set_option maxHeartbeats 4000000 in
set_option maxRecDepth 100000 in
theorem c_L_low (l : Launch) (v : Int32) (n : Nat) (hn0 : 0 < n) (hn1 : n < 2147483648) : Met l yL_low wsL_low ({ frames := 0, cells := 0, slots := 0, locals := 0 }) (va_Pc [.int v, .int (nI n)] (fun _ => True)) (RqI (nI (loN v % n))) 0 0 (fun _ => False) := by
  refine Met.ofW (cc := cL_low) (maxL := 2) (ret := (some .int)) (by decide) rfl ?_
  intro p e s m args_ below meth c s₁ B hml hv
  obtain ⟨rfl, -⟩ := hv
  have hP : va_P ((fun _ => 0), (fun _ _ => 0)) [] [] s.heap := fun k q h => by simp at h
  have hx := B.exec
  have hb := B.bytes
  have hr := B.returns
  have hts := atoms_spec (ws := wsL_low) B.pre
  have hown : s.vm.findClass RL = some m.cls := findClass_of_methodNamed B.named
  have hlocks := B.notSynchronized
  have hS : va_S (fun _ => False) s.heap s.heap [] := va_S.rf
  have hl := lv_entry ([.int v, .int (nI n)]) (n := 2) (Nat.le_of_ble_eq_true rfl)
  rw [lg_entry_eq]
  generalize (lg_sl ([.int v, .int (nI n)]) ++ List.replicate (2 - (lg_sl ([.int v, .int (nI n)])).length) Slot.unset).toArray = ls at hl ⊢
  have hl : lv_has ls 2 [(0, .int v), (1, .int (nI n))] := hl
  refine lv_iload_n hx hb dL_low_0 rfl (lv_at hl 0 rfl) ?_
  refine lv_ldc (v := 2147483647) hx hb hown (hts (.constant RL 8 (2147483647)) (by decide +kernel)) dL_low_1 ?_
  refine lv_iand hx hb dL_low_3 ?_
  refine cx_top (show (v &&& 2147483647) = (nI (loN v)) from pk_and v 31 (by decide)) ?_
  refine lv_iload_n hx hb dL_low_4 rfl (lv_at hl 1 rfl) ?_
  refine lv_irem hx hb dL_low_5 (nI_n0 hn0 hn1) ?_
  refine cx_top (show ((nI (loN v)) - (nI (loN v)) / (nI n) * (nI n)) = (nI (loN v % n)) from pk_rem (lo_lt v) hn0 hn1) ?_
  exact W.iret (v := (nI (loN v % n))) hx hb hr (fun t ht hW => ⟨⟨(nI (loN v % n)), (), rfl, (rfl), trivial⟩, hS.F ht⟩) hS.2.2 dL_low_6
set_option maxHeartbeats 4000000 in
set_option maxRecDepth 100000 in
theorem c_L_amount (l : Launch) (v : Int32) : Met l yL_amount wsL_amount ({ frames := 0, cells := 0, slots := 0, locals := 0 }) (va_Pc [.int v] (fun _ => True)) (RqI (abI v)) 0 0 (fun _ => False) := by
  refine Met.ofW (cc := cL_amount) (maxL := 1) (ret := (some .int)) (by decide) rfl ?_
  intro p e s m args_ below meth c s₁ B hml hv
  obtain ⟨rfl, -⟩ := hv
  have hP : va_P ((fun _ => 0), (fun _ _ => 0)) [] [] s.heap := fun k q h => by simp at h
  have hx := B.exec
  have hb := B.bytes
  have hr := B.returns
  have hts := atoms_spec (ws := wsL_amount) B.pre
  have hown : s.vm.findClass RL = some m.cls := findClass_of_methodNamed B.named
  have hlocks := B.notSynchronized
  have hS : va_S (fun _ => False) s.heap s.heap [] := va_S.rf
  have hl := lv_entry ([.int v]) (n := 1) (Nat.le_of_ble_eq_true rfl)
  rw [lg_entry_eq]
  generalize (lg_sl ([.int v]) ++ List.replicate (1 - (lg_sl ([.int v])).length) Slot.unset).toArray = ls at hl ⊢
  have hl : lv_has ls 1 [(0, .int v)] := hl
  refine lv_iload_n hx hb dL_amount_0 rfl (lv_at hl 0 rfl) ?_
  refine lv_if_ge (tgt := 9) hx hb dL_amount_1 (by decide) (fun c_1 => ?_) (fun c_1 => ?_)
  · refine lv_iload_n hx hb dL_amount_9 rfl (lv_at hl 0 rfl) ?_
    exact W.iret (v := v) hx hb hr (fun t ht hW => ⟨⟨v, (), rfl, (by first | exact am_t c_1 | exact am_f c_1), trivial⟩, hS.F ht⟩) hS.2.2 dL_amount_10
  · refine lv_iload_n hx hb dL_amount_4 rfl (lv_at hl 0 rfl) ?_
    refine lv_ineg hx hb dL_amount_5 ?_
    refine lv_goto (tgt := 10) hx hb dL_amount_6 (by decide) ?_
    exact W.iret (v := (-v)) hx hb hr (fun t ht hW => ⟨⟨(-v), (), rfl, (by first | exact am_t c_1 | exact am_f c_1), trivial⟩, hS.F ht⟩) hS.2.2 dL_amount_10
set_option maxHeartbeats 4000000 in
set_option maxRecDepth 100000 in
theorem c_L_eighth (l : Launch) (v : Int32) (h1 : -90000 ≤ v.toInt) (h2 : v.toInt ≤ 90000) : Met l yL_eighth wsL_eighth ({ frames := 0, cells := 0, slots := 0, locals := 0 }) (va_Pc [.int v] (fun _ => True)) (RqI (v >>> (3 : Int32))) 0 0 (fun _ => False) := by
  refine Met.ofW (cc := cL_eighth) (maxL := 1) (ret := (some .int)) (by decide) rfl ?_
  intro p e s m args_ below meth c s₁ B hml hv
  obtain ⟨rfl, -⟩ := hv
  have hP : va_P ((fun _ => 0), (fun _ _ => 0)) [] [] s.heap := fun k q h => by simp at h
  have hx := B.exec
  have hb := B.bytes
  have hr := B.returns
  have hts := atoms_spec (ws := wsL_eighth) B.pre
  have hown : s.vm.findClass RL = some m.cls := findClass_of_methodNamed B.named
  have hlocks := B.notSynchronized
  have hS : va_S (fun _ => False) s.heap s.heap [] := va_S.rf
  have hl := lv_entry ([.int v]) (n := 1) (Nat.le_of_ble_eq_true rfl)
  rw [lg_entry_eq]
  generalize (lg_sl ([.int v]) ++ List.replicate (1 - (lg_sl ([.int v])).length) Slot.unset).toArray = ls at hl ⊢
  have hl : lv_has ls 1 [(0, .int v)] := hl
  refine lv_iload_n hx hb dL_eighth_0 rfl (lv_at hl 0 rfl) ?_
  refine lv_ldc (v := 8000000) hx hb hown (hts (.constant RL 59 (8000000)) (by decide +kernel)) dL_eighth_1 ?_
  refine lv_iadd hx hb dL_eighth_3 ?_
  refine lv_bipush (v := 8) hx hb dL_eighth_4 (by decide) ?_
  refine lv_idiv hx hb dL_eighth_6 (by decide) ?_
  refine lv_ldc (v := 1000000) hx hb hown (hts (.constant RL 60 (1000000)) (by decide +kernel)) dL_eighth_7 ?_
  refine lv_isub hx hb dL_eighth_9 ?_
  exact W.iret (v := (((v + 8000000) / 8) - 1000000)) hx hb hr (fun t ht hW => ⟨⟨(((v + 8000000) / 8) - 1000000), (), rfl, (ei_ok h1 h2), trivial⟩, hS.F ht⟩) hS.2.2 dL_eighth_10
set_option maxHeartbeats 4000000 in
set_option maxRecDepth 100000 in
theorem c_L_wave (l : Launch) (k : Nat) (n : Nat) (hk : k < 8) (hn : n < 8) : Met l yL_wave wsL_wave ({ frames := 0, cells := 0, slots := 0, locals := 0 }) (va_Pc [.int (nI k), .int (nI n)] (fun _ => True)) (RqI (wv k n)) 0 0 (fun _ => False) := by
  refine Met.ofW (cc := cL_wave) (maxL := 4) (ret := (some .int)) (by decide) rfl ?_
  intro p e s m args_ below meth c s₁ B hml hv
  obtain ⟨rfl, -⟩ := hv
  have hP : va_P ((fun _ => 0), (fun _ _ => 0)) [] [] s.heap := fun k q h => by simp at h
  have hx := B.exec
  have hb := B.bytes
  have hr := B.returns
  have hts := atoms_spec (ws := wsL_wave) B.pre
  have hown : s.vm.findClass RL = some m.cls := findClass_of_methodNamed B.named
  have hlocks := B.notSynchronized
  have hS : va_S (fun _ => False) s.heap s.heap [] := va_S.rf
  have hl := lv_entry ([.int (nI k), .int (nI n)]) (n := 4) (Nat.le_of_ble_eq_true rfl)
  rw [lg_entry_eq]
  generalize (lg_sl ([.int (nI k), .int (nI n)]) ++ List.replicate (4 - (lg_sl ([.int (nI k), .int (nI n)])).length) Slot.unset).toArray = ls at hl ⊢
  have hl : lv_has ls 4 [(0, .int (nI k)), (1, .int (nI n))] := hl
  refine lv_iconst (v := 1) hx hb dL_wave_0 (by decide) ?_
  refine lv_istore_n (lv' := [(2, .int 1), (0, .int (nI k)), (1, .int (nI n))]) hx hb dL_wave_1 rfl hl (by decide) rfl (fun ls hl => ?_)
  refine lv_iconst (v := 1) hx hb dL_wave_2 (by decide) ?_
  refine lv_istore_n (lv' := [(3, .int 1), (2, .int 1), (0, .int (nI k)), (1, .int (nI n))]) hx hb dL_wave_3 rfl hl (by decide) rfl (fun ls hl => ?_)
  refine lv_iload_n hx hb dL_wave_4 rfl (lv_at hl 0 rfl) ?_
  refine lv_bipush (v := 8) hx hb dL_wave_5 (by decide) ?_
  refine lv_icmp_ge (tgt := 37) hx hb dL_wave_7 (by decide) (fun c_7 => absurd c_7 (by decide)) (fun c_7 => ?_)
  refine lv_iload_n hx hb dL_wave_10 rfl (lv_at hl 2 rfl) ?_
  refine lv_iload_n hx hb dL_wave_11 rfl (lv_at hl 0 rfl) ?_
  refine lv_idiv hx hb dL_wave_12 (by decide) ?_
  refine cx_top (pk_div (a := k) (d := 1) (by omega) (by decide) (by decide)) ?_
  refine lv_iload_n hx hb dL_wave_13 rfl (lv_at hl 3 rfl) ?_
  refine lv_iload_n hx hb dL_wave_14 rfl (lv_at hl 0 rfl) ?_
  refine lv_idiv hx hb dL_wave_15 (by decide) ?_
  refine cx_top (pk_div (a := n) (d := 1) (by omega) (by decide) (by decide)) ?_
  refine lv_iand hx hb dL_wave_16 ?_
  refine lv_iconst (v := 1) hx hb dL_wave_17 (by decide) ?_
  refine lv_iand hx hb dL_wave_18 ?_
  refine lv_iconst (v := 1) hx hb dL_wave_19 (by decide) ?_
  refine lv_icmp_ne (tgt := 28) hx hb dL_wave_20 (by decide) (fun c_20 => ?_) (fun c_20 => ?_)
  · refine lv_iload_n hx hb dL_wave_28 rfl (lv_at hl 1 rfl) ?_
    refine lv_istore_n (lv' := [(2, .int 1), (3, .int 1), (0, .int (nI k)), (1, .int (nI n))]) hx hb dL_wave_29 rfl hl (by decide) rfl (fun ls hl => ?_)
    refine lv_iload_n hx hb dL_wave_30 rfl (lv_at hl 1 rfl) ?_
    refine lv_iconst (v := 2) hx hb dL_wave_31 (by decide) ?_
    refine lv_imul hx hb dL_wave_32 ?_
    refine cx_top (y := 2) (by decide) ?_
    refine lv_istore_n (lv' := [(3, .int 2), (2, .int 1), (0, .int (nI k)), (1, .int (nI n))]) hx hb dL_wave_33 rfl hl (by decide) rfl (fun ls hl => ?_)
    refine lv_goto (tgt := 4) hx hb dL_wave_34 (by decide) ?_
    refine lv_iload_n hx hb dL_wave_4 rfl (lv_at hl 0 rfl) ?_
    refine lv_bipush (v := 8) hx hb dL_wave_5 (by decide) ?_
    refine lv_icmp_ge (tgt := 37) hx hb dL_wave_7 (by decide) (fun c_7 => absurd c_7 (by decide)) (fun c_7 => ?_)
    refine lv_iload_n hx hb dL_wave_10 rfl (lv_at hl 2 rfl) ?_
    refine lv_iload_n hx hb dL_wave_11 rfl (lv_at hl 0 rfl) ?_
    refine lv_idiv hx hb dL_wave_12 (by decide) ?_
    refine cx_top (pk_div (a := k) (d := 2) (by omega) (by decide) (by decide)) ?_
    refine lv_iload_n hx hb dL_wave_13 rfl (lv_at hl 3 rfl) ?_
    refine lv_iload_n hx hb dL_wave_14 rfl (lv_at hl 0 rfl) ?_
    refine lv_idiv hx hb dL_wave_15 (by decide) ?_
    refine cx_top (pk_div (a := n) (d := 2) (by omega) (by decide) (by decide)) ?_
    refine lv_iand hx hb dL_wave_16 ?_
    refine lv_iconst (v := 1) hx hb dL_wave_17 (by decide) ?_
    refine lv_iand hx hb dL_wave_18 ?_
    refine lv_iconst (v := 1) hx hb dL_wave_19 (by decide) ?_
    refine lv_icmp_ne (tgt := 28) hx hb dL_wave_20 (by decide) (fun c_20_1 => ?_) (fun c_20_1 => ?_)
    · refine lv_iload_n hx hb dL_wave_28 rfl (lv_at hl 1 rfl) ?_
      refine lv_istore_n (lv' := [(2, .int 1), (3, .int 2), (0, .int (nI k)), (1, .int (nI n))]) hx hb dL_wave_29 rfl hl (by decide) rfl (fun ls hl => ?_)
      refine lv_iload_n hx hb dL_wave_30 rfl (lv_at hl 1 rfl) ?_
      refine lv_iconst (v := 2) hx hb dL_wave_31 (by decide) ?_
      refine lv_imul hx hb dL_wave_32 ?_
      refine cx_top (y := 4) (by decide) ?_
      refine lv_istore_n (lv' := [(3, .int 4), (2, .int 1), (0, .int (nI k)), (1, .int (nI n))]) hx hb dL_wave_33 rfl hl (by decide) rfl (fun ls hl => ?_)
      refine lv_goto (tgt := 4) hx hb dL_wave_34 (by decide) ?_
      refine lv_iload_n hx hb dL_wave_4 rfl (lv_at hl 0 rfl) ?_
      refine lv_bipush (v := 8) hx hb dL_wave_5 (by decide) ?_
      refine lv_icmp_ge (tgt := 37) hx hb dL_wave_7 (by decide) (fun c_7 => absurd c_7 (by decide)) (fun c_7 => ?_)
      refine lv_iload_n hx hb dL_wave_10 rfl (lv_at hl 2 rfl) ?_
      refine lv_iload_n hx hb dL_wave_11 rfl (lv_at hl 0 rfl) ?_
      refine lv_idiv hx hb dL_wave_12 (by decide) ?_
      refine cx_top (pk_div (a := k) (d := 4) (by omega) (by decide) (by decide)) ?_
      refine lv_iload_n hx hb dL_wave_13 rfl (lv_at hl 3 rfl) ?_
      refine lv_iload_n hx hb dL_wave_14 rfl (lv_at hl 0 rfl) ?_
      refine lv_idiv hx hb dL_wave_15 (by decide) ?_
      refine cx_top (pk_div (a := n) (d := 4) (by omega) (by decide) (by decide)) ?_
      refine lv_iand hx hb dL_wave_16 ?_
      refine lv_iconst (v := 1) hx hb dL_wave_17 (by decide) ?_
      refine lv_iand hx hb dL_wave_18 ?_
      refine lv_iconst (v := 1) hx hb dL_wave_19 (by decide) ?_
      refine lv_icmp_ne (tgt := 28) hx hb dL_wave_20 (by decide) (fun c_20_2 => ?_) (fun c_20_2 => ?_)
      · refine lv_iload_n hx hb dL_wave_28 rfl (lv_at hl 1 rfl) ?_
        refine lv_istore_n (lv' := [(2, .int 1), (3, .int 4), (0, .int (nI k)), (1, .int (nI n))]) hx hb dL_wave_29 rfl hl (by decide) rfl (fun ls hl => ?_)
        refine lv_iload_n hx hb dL_wave_30 rfl (lv_at hl 1 rfl) ?_
        refine lv_iconst (v := 2) hx hb dL_wave_31 (by decide) ?_
        refine lv_imul hx hb dL_wave_32 ?_
        refine cx_top (y := 8) (by decide) ?_
        refine lv_istore_n (lv' := [(3, .int 8), (2, .int 1), (0, .int (nI k)), (1, .int (nI n))]) hx hb dL_wave_33 rfl hl (by decide) rfl (fun ls hl => ?_)
        refine lv_goto (tgt := 4) hx hb dL_wave_34 (by decide) ?_
        refine lv_iload_n hx hb dL_wave_4 rfl (lv_at hl 0 rfl) ?_
        refine lv_bipush (v := 8) hx hb dL_wave_5 (by decide) ?_
        refine lv_icmp_ge (tgt := 37) hx hb dL_wave_7 (by decide) (fun c_7 => ?_) (fun c_7 => absurd c_7 (by decide))
        refine lv_iload_n hx hb dL_wave_37 rfl (lv_at hl 1 rfl) ?_
        exact W.iret (v := 1) hx hb hr (fun t ht hW => ⟨⟨1, (), rfl, (wl_ttt k hk n hn c_20 c_20_1 c_20_2), trivial⟩, hS.F ht⟩) hS.2.2 dL_wave_38
      · refine lv_iload_n hx hb dL_wave_23 rfl (lv_at hl 1 rfl) ?_
        refine lv_ineg hx hb dL_wave_24 ?_
        refine lv_goto (tgt := 29) hx hb dL_wave_25 (by decide) ?_
        refine lv_istore_n (lv' := [(2, .int (-1)), (3, .int 4), (0, .int (nI k)), (1, .int (nI n))]) hx hb dL_wave_29 rfl hl (by decide) rfl (fun ls hl => ?_)
        refine lv_iload_n hx hb dL_wave_30 rfl (lv_at hl 1 rfl) ?_
        refine lv_iconst (v := 2) hx hb dL_wave_31 (by decide) ?_
        refine lv_imul hx hb dL_wave_32 ?_
        refine cx_top (y := 8) (by decide) ?_
        refine lv_istore_n (lv' := [(3, .int 8), (2, .int (-1)), (0, .int (nI k)), (1, .int (nI n))]) hx hb dL_wave_33 rfl hl (by decide) rfl (fun ls hl => ?_)
        refine lv_goto (tgt := 4) hx hb dL_wave_34 (by decide) ?_
        refine lv_iload_n hx hb dL_wave_4 rfl (lv_at hl 0 rfl) ?_
        refine lv_bipush (v := 8) hx hb dL_wave_5 (by decide) ?_
        refine lv_icmp_ge (tgt := 37) hx hb dL_wave_7 (by decide) (fun c_7 => ?_) (fun c_7 => absurd c_7 (by decide))
        refine lv_iload_n hx hb dL_wave_37 rfl (lv_at hl 1 rfl) ?_
        exact W.iret (v := (-1)) hx hb hr (fun t ht hW => ⟨⟨(-1), (), rfl, (wl_ttf k hk n hn c_20 c_20_1 c_20_2), trivial⟩, hS.F ht⟩) hS.2.2 dL_wave_38
    · refine lv_iload_n hx hb dL_wave_23 rfl (lv_at hl 1 rfl) ?_
      refine lv_ineg hx hb dL_wave_24 ?_
      refine lv_goto (tgt := 29) hx hb dL_wave_25 (by decide) ?_
      refine lv_istore_n (lv' := [(2, .int (-1)), (3, .int 2), (0, .int (nI k)), (1, .int (nI n))]) hx hb dL_wave_29 rfl hl (by decide) rfl (fun ls hl => ?_)
      refine lv_iload_n hx hb dL_wave_30 rfl (lv_at hl 1 rfl) ?_
      refine lv_iconst (v := 2) hx hb dL_wave_31 (by decide) ?_
      refine lv_imul hx hb dL_wave_32 ?_
      refine cx_top (y := 4) (by decide) ?_
      refine lv_istore_n (lv' := [(3, .int 4), (2, .int (-1)), (0, .int (nI k)), (1, .int (nI n))]) hx hb dL_wave_33 rfl hl (by decide) rfl (fun ls hl => ?_)
      refine lv_goto (tgt := 4) hx hb dL_wave_34 (by decide) ?_
      refine lv_iload_n hx hb dL_wave_4 rfl (lv_at hl 0 rfl) ?_
      refine lv_bipush (v := 8) hx hb dL_wave_5 (by decide) ?_
      refine lv_icmp_ge (tgt := 37) hx hb dL_wave_7 (by decide) (fun c_7 => absurd c_7 (by decide)) (fun c_7 => ?_)
      refine lv_iload_n hx hb dL_wave_10 rfl (lv_at hl 2 rfl) ?_
      refine lv_iload_n hx hb dL_wave_11 rfl (lv_at hl 0 rfl) ?_
      refine lv_idiv hx hb dL_wave_12 (by decide) ?_
      refine cx_top (pk_div (a := k) (d := 4) (by omega) (by decide) (by decide)) ?_
      refine lv_iload_n hx hb dL_wave_13 rfl (lv_at hl 3 rfl) ?_
      refine lv_iload_n hx hb dL_wave_14 rfl (lv_at hl 0 rfl) ?_
      refine lv_idiv hx hb dL_wave_15 (by decide) ?_
      refine cx_top (pk_div (a := n) (d := 4) (by omega) (by decide) (by decide)) ?_
      refine lv_iand hx hb dL_wave_16 ?_
      refine lv_iconst (v := 1) hx hb dL_wave_17 (by decide) ?_
      refine lv_iand hx hb dL_wave_18 ?_
      refine lv_iconst (v := 1) hx hb dL_wave_19 (by decide) ?_
      refine lv_icmp_ne (tgt := 28) hx hb dL_wave_20 (by decide) (fun c_20_2 => ?_) (fun c_20_2 => ?_)
      · refine lv_iload_n hx hb dL_wave_28 rfl (lv_at hl 1 rfl) ?_
        refine lv_istore_n (lv' := [(2, .int (-1)), (3, .int 4), (0, .int (nI k)), (1, .int (nI n))]) hx hb dL_wave_29 rfl hl (by decide) rfl (fun ls hl => ?_)
        refine lv_iload_n hx hb dL_wave_30 rfl (lv_at hl 1 rfl) ?_
        refine lv_iconst (v := 2) hx hb dL_wave_31 (by decide) ?_
        refine lv_imul hx hb dL_wave_32 ?_
        refine cx_top (y := 8) (by decide) ?_
        refine lv_istore_n (lv' := [(3, .int 8), (2, .int (-1)), (0, .int (nI k)), (1, .int (nI n))]) hx hb dL_wave_33 rfl hl (by decide) rfl (fun ls hl => ?_)
        refine lv_goto (tgt := 4) hx hb dL_wave_34 (by decide) ?_
        refine lv_iload_n hx hb dL_wave_4 rfl (lv_at hl 0 rfl) ?_
        refine lv_bipush (v := 8) hx hb dL_wave_5 (by decide) ?_
        refine lv_icmp_ge (tgt := 37) hx hb dL_wave_7 (by decide) (fun c_7 => ?_) (fun c_7 => absurd c_7 (by decide))
        refine lv_iload_n hx hb dL_wave_37 rfl (lv_at hl 1 rfl) ?_
        exact W.iret (v := (-1)) hx hb hr (fun t ht hW => ⟨⟨(-1), (), rfl, (wl_tft k hk n hn c_20 c_20_1 c_20_2), trivial⟩, hS.F ht⟩) hS.2.2 dL_wave_38
      · refine lv_iload_n hx hb dL_wave_23 rfl (lv_at hl 1 rfl) ?_
        refine lv_ineg hx hb dL_wave_24 ?_
        refine lv_goto (tgt := 29) hx hb dL_wave_25 (by decide) ?_
        refine lv_istore_n (lv' := [(2, .int (-(-1))), (3, .int 4), (0, .int (nI k)), (1, .int (nI n))]) hx hb dL_wave_29 rfl hl (by decide) rfl (fun ls hl => ?_)
        refine lv_iload_n hx hb dL_wave_30 rfl (lv_at hl 1 rfl) ?_
        refine lv_iconst (v := 2) hx hb dL_wave_31 (by decide) ?_
        refine lv_imul hx hb dL_wave_32 ?_
        refine cx_top (y := 8) (by decide) ?_
        refine lv_istore_n (lv' := [(3, .int 8), (2, .int (-(-1))), (0, .int (nI k)), (1, .int (nI n))]) hx hb dL_wave_33 rfl hl (by decide) rfl (fun ls hl => ?_)
        refine lv_goto (tgt := 4) hx hb dL_wave_34 (by decide) ?_
        refine lv_iload_n hx hb dL_wave_4 rfl (lv_at hl 0 rfl) ?_
        refine lv_bipush (v := 8) hx hb dL_wave_5 (by decide) ?_
        refine lv_icmp_ge (tgt := 37) hx hb dL_wave_7 (by decide) (fun c_7 => ?_) (fun c_7 => absurd c_7 (by decide))
        refine lv_iload_n hx hb dL_wave_37 rfl (lv_at hl 1 rfl) ?_
        exact W.iret (v := (-(-1))) hx hb hr (fun t ht hW => ⟨⟨(-(-1)), (), rfl, (wl_tff k hk n hn c_20 c_20_1 c_20_2), trivial⟩, hS.F ht⟩) hS.2.2 dL_wave_38
  · refine lv_iload_n hx hb dL_wave_23 rfl (lv_at hl 1 rfl) ?_
    refine lv_ineg hx hb dL_wave_24 ?_
    refine lv_goto (tgt := 29) hx hb dL_wave_25 (by decide) ?_
    refine lv_istore_n (lv' := [(2, .int (-1)), (3, .int 1), (0, .int (nI k)), (1, .int (nI n))]) hx hb dL_wave_29 rfl hl (by decide) rfl (fun ls hl => ?_)
    refine lv_iload_n hx hb dL_wave_30 rfl (lv_at hl 1 rfl) ?_
    refine lv_iconst (v := 2) hx hb dL_wave_31 (by decide) ?_
    refine lv_imul hx hb dL_wave_32 ?_
    refine cx_top (y := 2) (by decide) ?_
    refine lv_istore_n (lv' := [(3, .int 2), (2, .int (-1)), (0, .int (nI k)), (1, .int (nI n))]) hx hb dL_wave_33 rfl hl (by decide) rfl (fun ls hl => ?_)
    refine lv_goto (tgt := 4) hx hb dL_wave_34 (by decide) ?_
    refine lv_iload_n hx hb dL_wave_4 rfl (lv_at hl 0 rfl) ?_
    refine lv_bipush (v := 8) hx hb dL_wave_5 (by decide) ?_
    refine lv_icmp_ge (tgt := 37) hx hb dL_wave_7 (by decide) (fun c_7 => absurd c_7 (by decide)) (fun c_7 => ?_)
    refine lv_iload_n hx hb dL_wave_10 rfl (lv_at hl 2 rfl) ?_
    refine lv_iload_n hx hb dL_wave_11 rfl (lv_at hl 0 rfl) ?_
    refine lv_idiv hx hb dL_wave_12 (by decide) ?_
    refine cx_top (pk_div (a := k) (d := 2) (by omega) (by decide) (by decide)) ?_
    refine lv_iload_n hx hb dL_wave_13 rfl (lv_at hl 3 rfl) ?_
    refine lv_iload_n hx hb dL_wave_14 rfl (lv_at hl 0 rfl) ?_
    refine lv_idiv hx hb dL_wave_15 (by decide) ?_
    refine cx_top (pk_div (a := n) (d := 2) (by omega) (by decide) (by decide)) ?_
    refine lv_iand hx hb dL_wave_16 ?_
    refine lv_iconst (v := 1) hx hb dL_wave_17 (by decide) ?_
    refine lv_iand hx hb dL_wave_18 ?_
    refine lv_iconst (v := 1) hx hb dL_wave_19 (by decide) ?_
    refine lv_icmp_ne (tgt := 28) hx hb dL_wave_20 (by decide) (fun c_20_1 => ?_) (fun c_20_1 => ?_)
    · refine lv_iload_n hx hb dL_wave_28 rfl (lv_at hl 1 rfl) ?_
      refine lv_istore_n (lv' := [(2, .int (-1)), (3, .int 2), (0, .int (nI k)), (1, .int (nI n))]) hx hb dL_wave_29 rfl hl (by decide) rfl (fun ls hl => ?_)
      refine lv_iload_n hx hb dL_wave_30 rfl (lv_at hl 1 rfl) ?_
      refine lv_iconst (v := 2) hx hb dL_wave_31 (by decide) ?_
      refine lv_imul hx hb dL_wave_32 ?_
      refine cx_top (y := 4) (by decide) ?_
      refine lv_istore_n (lv' := [(3, .int 4), (2, .int (-1)), (0, .int (nI k)), (1, .int (nI n))]) hx hb dL_wave_33 rfl hl (by decide) rfl (fun ls hl => ?_)
      refine lv_goto (tgt := 4) hx hb dL_wave_34 (by decide) ?_
      refine lv_iload_n hx hb dL_wave_4 rfl (lv_at hl 0 rfl) ?_
      refine lv_bipush (v := 8) hx hb dL_wave_5 (by decide) ?_
      refine lv_icmp_ge (tgt := 37) hx hb dL_wave_7 (by decide) (fun c_7 => absurd c_7 (by decide)) (fun c_7 => ?_)
      refine lv_iload_n hx hb dL_wave_10 rfl (lv_at hl 2 rfl) ?_
      refine lv_iload_n hx hb dL_wave_11 rfl (lv_at hl 0 rfl) ?_
      refine lv_idiv hx hb dL_wave_12 (by decide) ?_
      refine cx_top (pk_div (a := k) (d := 4) (by omega) (by decide) (by decide)) ?_
      refine lv_iload_n hx hb dL_wave_13 rfl (lv_at hl 3 rfl) ?_
      refine lv_iload_n hx hb dL_wave_14 rfl (lv_at hl 0 rfl) ?_
      refine lv_idiv hx hb dL_wave_15 (by decide) ?_
      refine cx_top (pk_div (a := n) (d := 4) (by omega) (by decide) (by decide)) ?_
      refine lv_iand hx hb dL_wave_16 ?_
      refine lv_iconst (v := 1) hx hb dL_wave_17 (by decide) ?_
      refine lv_iand hx hb dL_wave_18 ?_
      refine lv_iconst (v := 1) hx hb dL_wave_19 (by decide) ?_
      refine lv_icmp_ne (tgt := 28) hx hb dL_wave_20 (by decide) (fun c_20_2 => ?_) (fun c_20_2 => ?_)
      · refine lv_iload_n hx hb dL_wave_28 rfl (lv_at hl 1 rfl) ?_
        refine lv_istore_n (lv' := [(2, .int (-1)), (3, .int 4), (0, .int (nI k)), (1, .int (nI n))]) hx hb dL_wave_29 rfl hl (by decide) rfl (fun ls hl => ?_)
        refine lv_iload_n hx hb dL_wave_30 rfl (lv_at hl 1 rfl) ?_
        refine lv_iconst (v := 2) hx hb dL_wave_31 (by decide) ?_
        refine lv_imul hx hb dL_wave_32 ?_
        refine cx_top (y := 8) (by decide) ?_
        refine lv_istore_n (lv' := [(3, .int 8), (2, .int (-1)), (0, .int (nI k)), (1, .int (nI n))]) hx hb dL_wave_33 rfl hl (by decide) rfl (fun ls hl => ?_)
        refine lv_goto (tgt := 4) hx hb dL_wave_34 (by decide) ?_
        refine lv_iload_n hx hb dL_wave_4 rfl (lv_at hl 0 rfl) ?_
        refine lv_bipush (v := 8) hx hb dL_wave_5 (by decide) ?_
        refine lv_icmp_ge (tgt := 37) hx hb dL_wave_7 (by decide) (fun c_7 => ?_) (fun c_7 => absurd c_7 (by decide))
        refine lv_iload_n hx hb dL_wave_37 rfl (lv_at hl 1 rfl) ?_
        exact W.iret (v := (-1)) hx hb hr (fun t ht hW => ⟨⟨(-1), (), rfl, (wl_ftt k hk n hn c_20 c_20_1 c_20_2), trivial⟩, hS.F ht⟩) hS.2.2 dL_wave_38
      · refine lv_iload_n hx hb dL_wave_23 rfl (lv_at hl 1 rfl) ?_
        refine lv_ineg hx hb dL_wave_24 ?_
        refine lv_goto (tgt := 29) hx hb dL_wave_25 (by decide) ?_
        refine lv_istore_n (lv' := [(2, .int (-(-1))), (3, .int 4), (0, .int (nI k)), (1, .int (nI n))]) hx hb dL_wave_29 rfl hl (by decide) rfl (fun ls hl => ?_)
        refine lv_iload_n hx hb dL_wave_30 rfl (lv_at hl 1 rfl) ?_
        refine lv_iconst (v := 2) hx hb dL_wave_31 (by decide) ?_
        refine lv_imul hx hb dL_wave_32 ?_
        refine cx_top (y := 8) (by decide) ?_
        refine lv_istore_n (lv' := [(3, .int 8), (2, .int (-(-1))), (0, .int (nI k)), (1, .int (nI n))]) hx hb dL_wave_33 rfl hl (by decide) rfl (fun ls hl => ?_)
        refine lv_goto (tgt := 4) hx hb dL_wave_34 (by decide) ?_
        refine lv_iload_n hx hb dL_wave_4 rfl (lv_at hl 0 rfl) ?_
        refine lv_bipush (v := 8) hx hb dL_wave_5 (by decide) ?_
        refine lv_icmp_ge (tgt := 37) hx hb dL_wave_7 (by decide) (fun c_7 => ?_) (fun c_7 => absurd c_7 (by decide))
        refine lv_iload_n hx hb dL_wave_37 rfl (lv_at hl 1 rfl) ?_
        exact W.iret (v := (-(-1))) hx hb hr (fun t ht hW => ⟨⟨(-(-1)), (), rfl, (wl_ftf k hk n hn c_20 c_20_1 c_20_2), trivial⟩, hS.F ht⟩) hS.2.2 dL_wave_38
    · refine lv_iload_n hx hb dL_wave_23 rfl (lv_at hl 1 rfl) ?_
      refine lv_ineg hx hb dL_wave_24 ?_
      refine lv_goto (tgt := 29) hx hb dL_wave_25 (by decide) ?_
      refine lv_istore_n (lv' := [(2, .int (-(-1))), (3, .int 2), (0, .int (nI k)), (1, .int (nI n))]) hx hb dL_wave_29 rfl hl (by decide) rfl (fun ls hl => ?_)
      refine lv_iload_n hx hb dL_wave_30 rfl (lv_at hl 1 rfl) ?_
      refine lv_iconst (v := 2) hx hb dL_wave_31 (by decide) ?_
      refine lv_imul hx hb dL_wave_32 ?_
      refine cx_top (y := 4) (by decide) ?_
      refine lv_istore_n (lv' := [(3, .int 4), (2, .int (-(-1))), (0, .int (nI k)), (1, .int (nI n))]) hx hb dL_wave_33 rfl hl (by decide) rfl (fun ls hl => ?_)
      refine lv_goto (tgt := 4) hx hb dL_wave_34 (by decide) ?_
      refine lv_iload_n hx hb dL_wave_4 rfl (lv_at hl 0 rfl) ?_
      refine lv_bipush (v := 8) hx hb dL_wave_5 (by decide) ?_
      refine lv_icmp_ge (tgt := 37) hx hb dL_wave_7 (by decide) (fun c_7 => absurd c_7 (by decide)) (fun c_7 => ?_)
      refine lv_iload_n hx hb dL_wave_10 rfl (lv_at hl 2 rfl) ?_
      refine lv_iload_n hx hb dL_wave_11 rfl (lv_at hl 0 rfl) ?_
      refine lv_idiv hx hb dL_wave_12 (by decide) ?_
      refine cx_top (pk_div (a := k) (d := 4) (by omega) (by decide) (by decide)) ?_
      refine lv_iload_n hx hb dL_wave_13 rfl (lv_at hl 3 rfl) ?_
      refine lv_iload_n hx hb dL_wave_14 rfl (lv_at hl 0 rfl) ?_
      refine lv_idiv hx hb dL_wave_15 (by decide) ?_
      refine cx_top (pk_div (a := n) (d := 4) (by omega) (by decide) (by decide)) ?_
      refine lv_iand hx hb dL_wave_16 ?_
      refine lv_iconst (v := 1) hx hb dL_wave_17 (by decide) ?_
      refine lv_iand hx hb dL_wave_18 ?_
      refine lv_iconst (v := 1) hx hb dL_wave_19 (by decide) ?_
      refine lv_icmp_ne (tgt := 28) hx hb dL_wave_20 (by decide) (fun c_20_2 => ?_) (fun c_20_2 => ?_)
      · refine lv_iload_n hx hb dL_wave_28 rfl (lv_at hl 1 rfl) ?_
        refine lv_istore_n (lv' := [(2, .int (-(-1))), (3, .int 4), (0, .int (nI k)), (1, .int (nI n))]) hx hb dL_wave_29 rfl hl (by decide) rfl (fun ls hl => ?_)
        refine lv_iload_n hx hb dL_wave_30 rfl (lv_at hl 1 rfl) ?_
        refine lv_iconst (v := 2) hx hb dL_wave_31 (by decide) ?_
        refine lv_imul hx hb dL_wave_32 ?_
        refine cx_top (y := 8) (by decide) ?_
        refine lv_istore_n (lv' := [(3, .int 8), (2, .int (-(-1))), (0, .int (nI k)), (1, .int (nI n))]) hx hb dL_wave_33 rfl hl (by decide) rfl (fun ls hl => ?_)
        refine lv_goto (tgt := 4) hx hb dL_wave_34 (by decide) ?_
        refine lv_iload_n hx hb dL_wave_4 rfl (lv_at hl 0 rfl) ?_
        refine lv_bipush (v := 8) hx hb dL_wave_5 (by decide) ?_
        refine lv_icmp_ge (tgt := 37) hx hb dL_wave_7 (by decide) (fun c_7 => ?_) (fun c_7 => absurd c_7 (by decide))
        refine lv_iload_n hx hb dL_wave_37 rfl (lv_at hl 1 rfl) ?_
        exact W.iret (v := (-(-1))) hx hb hr (fun t ht hW => ⟨⟨(-(-1)), (), rfl, (wl_fft k hk n hn c_20 c_20_1 c_20_2), trivial⟩, hS.F ht⟩) hS.2.2 dL_wave_38
      · refine lv_iload_n hx hb dL_wave_23 rfl (lv_at hl 1 rfl) ?_
        refine lv_ineg hx hb dL_wave_24 ?_
        refine lv_goto (tgt := 29) hx hb dL_wave_25 (by decide) ?_
        refine lv_istore_n (lv' := [(2, .int (-(-(-1)))), (3, .int 4), (0, .int (nI k)), (1, .int (nI n))]) hx hb dL_wave_29 rfl hl (by decide) rfl (fun ls hl => ?_)
        refine lv_iload_n hx hb dL_wave_30 rfl (lv_at hl 1 rfl) ?_
        refine lv_iconst (v := 2) hx hb dL_wave_31 (by decide) ?_
        refine lv_imul hx hb dL_wave_32 ?_
        refine cx_top (y := 8) (by decide) ?_
        refine lv_istore_n (lv' := [(3, .int 8), (2, .int (-(-(-1)))), (0, .int (nI k)), (1, .int (nI n))]) hx hb dL_wave_33 rfl hl (by decide) rfl (fun ls hl => ?_)
        refine lv_goto (tgt := 4) hx hb dL_wave_34 (by decide) ?_
        refine lv_iload_n hx hb dL_wave_4 rfl (lv_at hl 0 rfl) ?_
        refine lv_bipush (v := 8) hx hb dL_wave_5 (by decide) ?_
        refine lv_icmp_ge (tgt := 37) hx hb dL_wave_7 (by decide) (fun c_7 => ?_) (fun c_7 => absurd c_7 (by decide))
        refine lv_iload_n hx hb dL_wave_37 rfl (lv_at hl 1 rfl) ?_
        exact W.iret (v := (-(-(-1)))) hx hb hr (fun t ht hW => ⟨⟨(-(-(-1))), (), rfl, (wl_fff k hk n hn c_20 c_20_1 c_20_2), trivial⟩, hS.F ht⟩) hS.2.2 dL_wave_38
set_option maxHeartbeats 4000000 in
set_option maxRecDepth 100000 in
theorem c_L_turning (l : Launch) (D : va_G) (T : Nat → ClassId) (ad : Nat → Nat) (I : Nat → Int32) (R : Nat → Nat → Int32) : Met l yL_turning wsL_turning ({ frames := 0, cells := 0, slots := 0, locals := 0 }) (va_Pc [.ref (ad 0)] (YR D T ad I R)) (RqI (cnS (R 0) 8)) 0 0 (fun _ => False) := by
  refine Met.ofW (cc := cL_turning) (maxL := 3) (ret := (some .int)) (by decide) rfl ?_
  intro p e s m args_ below meth c s₁ B hml hv
  obtain ⟨rfl, hP, hK⟩ := hv
  have hx := B.exec
  have hb := B.bytes
  have hr := B.returns
  have hts := atoms_spec (ws := wsL_turning) B.pre
  have hown : s.vm.findClass RL = some m.cls := findClass_of_methodNamed B.named
  have hlocks := B.notSynchronized
  have hS : va_S (fun _ => False) s.heap s.heap [] := va_S.rf
  have hl := lv_entry ([.ref (ad 0)]) (n := 3) (Nat.le_of_ble_eq_true rfl)
  rw [lg_entry_eq]
  generalize (lg_sl ([.ref (ad 0)]) ++ List.replicate (3 - (lg_sl ([.ref (ad 0)])).length) Slot.unset).toArray = ls at hl ⊢
  have hl : lv_has ls 3 [(0, .ref (ad 0))] := hl
  refine lv_iconst (v := 0) hx hb dL_turning_0 (by decide) ?_
  refine lv_istore_n (lv' := [(1, .int 0), (0, .ref (ad 0))]) hx hb dL_turning_1 rfl hl (by decide) rfl (fun ls hl => ?_)
  refine lv_iconst (v := 0) hx hb dL_turning_2 (by decide) ?_
  refine lv_istore_n (lv' := [(2, .int 0), (1, .int 0), (0, .ref (ad 0))]) hx hb dL_turning_3 rfl hl (by decide) rfl (fun ls hl => ?_)
  suffices ih_4 : ∀ (fu : Nat) (i : Nat) (H : Heap) (locs : List Loc) (ls : Array Slot), 8 - i < fu → (i ≤ 8) → va_P D vwCl (hw T ad I R) H →  va_S (fun _ => False) s.heap H locs → lv_has ls 3 [(0, .ref (ad 0)), (1, .int (cnS (R 0) i)), (2, .int (nI i))] → W p l e (headSpec wsL_turning ({ frames := 0, cells := 0, slots := 0, locals := 0 })).room s m ([.ref (ad 0)] : List Value).toArray below meth c H locs 0 0 (MQ below (RqI (cnS (R 0) 8)) ([.ref (ad 0)] : List Value).toArray s 0 0 (fun _ => False)) (F0 m 4 ls []) from
    ih_4 _ 0 _ _ _ (Nat.lt_succ_self _) (by omega) hP hS (lv_sub hl [2, 1, 0] rfl)
  intro fu
  induction fu with
  | zero => intro i H locs ls hfu; exact absurd hfu (Nat.not_lt_zero _)
  | succ fu ih_4 =>
    intro i H locs ls hfu hi hP hS hl
    refine lv_iload_n hx hb dL_turning_4 rfl (lv_at hl 2 rfl) ?_
    refine lv_bipush (v := 8) hx hb dL_turning_5 (by decide) ?_
    refine lv_icmp_ge (tgt := 30) hx hb dL_turning_7 (by decide) (fun c_7 => ?_) (fun c_7 => ?_)
    · have c_7 : 8 ≤ i := (nI_leI (a := 8) (b := i) (by omega) (by omega)).mp c_7
      obtain rfl : i = 8 := by omega
      refine lv_iload_n hx hb dL_turning_30 rfl (lv_at hl 1 rfl) ?_
      exact W.iret (v := (cnS (R 0) 8)) hx hb hr (fun t ht hW => ⟨⟨(cnS (R 0) 8), (), rfl, (rfl), trivial⟩, hS.F ht⟩) hS.2.2 dL_turning_31
    · have c_7 : ¬ (8 ≤ i) := fun h => c_7 ((nI_leI (a := 8) (b := i) (by omega) (by omega)).mpr h)
      refine lv_iload_n hx hb dL_turning_10 rfl (lv_at hl 1 rfl) ?_
      refine lv_aload_n hx hb dL_turning_11 rfl (lv_at hl 0 rfl) ?_
      refine lv_iload_n hx hb dL_turning_12 rfl (lv_at hl 2 rfl) ?_
      refine cx_iald (k := i) hx hb hK hP 0 1 hw_0 rfl (by omega) (by decide) dL_turning_13 ?_
      refine cx_top (y := ((R 0) i)) rfl ?_
      refine lv_if_ne (tgt := 21) hx hb dL_turning_14 (by decide) (fun c_14 => ?_) (fun c_14 => ?_)
      · refine lv_iconst (v := 1) hx hb dL_turning_21 (by decide) ?_
        refine lv_iadd hx hb dL_turning_22 ?_
        refine cx_top (show ((cnS (R 0) i) + 1) = (cnS (R 0) (i + 1)) from by first | exact cn_t (by assumption) | exact cn_f (by assumption)) ?_
        refine lv_istore_n (lv' := [(1, .int (cnS (R 0) (i + 1))), (0, .ref (ad 0)), (2, .int (nI i))]) hx hb dL_turning_23 rfl hl (by decide) rfl (fun ls hl => ?_)
        refine lv_iinc (k := 2) (v := (nI (i + 1))) (lv' := [(2, .int (nI (i + 1))), (1, .int (cnS (R 0) (i + 1))), (0, .ref (ad 0))]) hx hb dL_turning_24 hl rfl (nI_add i 1) (by decide) rfl (fun ls hl => ?_)
        refine lv_goto (tgt := 4) hx hb dL_turning_27 (by decide) ?_
        exact ih_4 (i + 1) _ _ _ (by omega) (by omega) hP hS (lv_sub hl [2, 1, 0] rfl)
      · refine lv_iconst (v := 0) hx hb dL_turning_17 (by decide) ?_
        refine lv_goto (tgt := 22) hx hb dL_turning_18 (by decide) ?_
        refine lv_iadd hx hb dL_turning_22 ?_
        refine cx_top (show ((cnS (R 0) i) + 0) = (cnS (R 0) (i + 1)) from by first | exact cn_t (by assumption) | exact cn_f (by assumption)) ?_
        refine lv_istore_n (lv' := [(1, .int (cnS (R 0) (i + 1))), (0, .ref (ad 0)), (2, .int (nI i))]) hx hb dL_turning_23 rfl hl (by decide) rfl (fun ls hl => ?_)
        refine lv_iinc (k := 2) (v := (nI (i + 1))) (lv' := [(2, .int (nI (i + 1))), (1, .int (cnS (R 0) (i + 1))), (0, .ref (ad 0))]) hx hb dL_turning_24 hl rfl (nI_add i 1) (by decide) rfl (fun ls hl => ?_)
        refine lv_goto (tgt := 4) hx hb dL_turning_27 (by decide) ?_
        exact ih_4 (i + 1) _ _ _ (by omega) (by omega) hP hS (lv_sub hl [2, 1, 0] rfl)
set_option maxHeartbeats 4000000 in
set_option maxRecDepth 100000 in
theorem c_L_halves (l : Launch) (D : va_G) (T : Nat → ClassId) (ad : Nat → Nat) (I : Nat → Int32) (R : Nat → Nat → Int32) (sz : Nat) (hAD : AD 1 ad) : Met l yL_halves wsL_halves ({ frames := 0, cells := 0, slots := 0, locals := 0 }) (va_Pc [.ref (ad 0)] (YB D T ad I R sz)) (va_Qv (fun (f : Nat → Int32) => ∀ n, n < 8 → f n = trS (R 0) n 8) (fun (f : Nat → Int32) t => va_P D vwCl (hw T ad I (updR R 0 f)) t.heap) (cA 1 ad sz)) 0 0 (cA 1 ad sz) := by
  refine Met.ofW (cc := cL_halves) (maxL := 5) (ret := none) (by decide) rfl ?_
  intro p e s m args_ below meth c s₁ B hml hv
  obtain ⟨rfl, hsz, hP, hK⟩ := hv
  have hx := B.exec
  have hb := B.bytes
  have hr := B.returns
  have hts := atoms_spec (ws := wsL_halves) B.pre
  have hown : s.vm.findClass RL = some m.cls := findClass_of_methodNamed B.named
  have hlocks := B.notSynchronized
  subst hsz
  have hS : va_S (cA 1 ad s.heap.size) s.heap s.heap [] := va_S.rf
  have hD : ∀ I R, va_D (cA 1 ad s.heap.size) (hw T ad I R) := fun I R => hw_D hAD (fun k hk => cA_in hk)
  have hl := lv_entry ([.ref (ad 0)]) (n := 5) (Nat.le_of_ble_eq_true rfl)
  rw [lg_entry_eq]
  generalize (lg_sl ([.ref (ad 0)]) ++ List.replicate (5 - (lg_sl ([.ref (ad 0)])).length) Slot.unset).toArray = ls at hl ⊢
  have hl : lv_has ls 5 [(0, .ref (ad 0))] := hl
  refine lv_iconst (v := 4) hx hb dL_halves_0 (by decide) ?_
  refine lv_istore_n (lv' := [(1, .int 4), (0, .ref (ad 0))]) hx hb dL_halves_1 rfl hl (by decide) rfl (fun ls hl => ?_)
  refine lv_iload_n hx hb dL_halves_2 rfl (lv_at hl 0 rfl) ?_
  refine lv_if_le (tgt := 66) hx hb dL_halves_3 (by decide) (fun c_3 => absurd c_3 (by decide)) (fun c_3 => ?_)
  refine lv_iconst (v := 0) hx hb dL_halves_6 (by decide) ?_
  refine lv_istore_n (lv' := [(2, .int 0), (1, .int 4), (0, .ref (ad 0))]) hx hb dL_halves_7 rfl hl (by decide) rfl (fun ls hl => ?_)
  refine lv_iload_n hx hb dL_halves_8 rfl (lv_at hl 0 rfl) ?_
  refine lv_bipush (v := 8) hx hb dL_halves_9 (by decide) ?_
  refine lv_icmp_ge (tgt := 59) hx hb dL_halves_11 (by decide) (fun c_11 => absurd c_11 (by decide)) (fun c_11 => ?_)
  refine lv_iload_n hx hb dL_halves_14 rfl (lv_at hl 0 rfl) ?_
  refine lv_iload_n hx hb dL_halves_15 rfl (lv_at hl 1 rfl) ?_
  refine lv_idiv hx hb dL_halves_16 (by decide) ?_
  refine cx_top (y := 0) (by decide) ?_
  refine lv_iconst (v := 1) hx hb dL_halves_17 (by decide) ?_
  refine lv_iand hx hb dL_halves_18 ?_
  refine cx_top (y := 0) (by decide) ?_
  refine lv_iconst (v := 1) hx hb dL_halves_19 (by decide) ?_
  refine lv_icmp_ne (tgt := 26) hx hb dL_halves_20 (by decide) (fun c_20 => ?_) (fun c_20 => absurd c_20 (by decide))
  refine lv_aload_n hx hb dL_halves_26 rfl (lv_at hl 2 rfl) ?_
  refine lv_iload_n hx hb dL_halves_27 rfl (lv_at hl 0 rfl) ?_
  refine cx_iald (k := 0) hx hb hK hP 0 1 hw_0 rfl (by decide) (by decide) dL_halves_28 ?_
  refine cx_top (y := ((R 0) 0)) rfl ?_
  refine lv_istore_n (lv' := [(3, .int ((R 0) 0)), (2, .int 0), (1, .int 4), (0, .ref (ad 0))]) hx hb dL_halves_29 rfl hl (by decide) rfl (fun ls hl => ?_)
  refine lv_aload_n hx hb dL_halves_30 rfl (lv_at hl 3 rfl) ?_
  refine lv_iload_n hx hb dL_halves_31 rfl (lv_at hl 1 rfl) ?_
  refine lv_iload_n hx hb dL_halves_32 rfl (lv_at hl 2 rfl) ?_
  refine lv_iadd hx hb dL_halves_33 ?_
  refine cx_top (y := 4) (by decide) ?_
  refine cx_iald (k := 4) hx hb hK hP 0 1 hw_0 rfl (by decide) (by decide) dL_halves_34 ?_
  refine cx_top (y := ((R 0) 4)) rfl ?_
  refine lv_istore (lv' := [(4, .int ((R 0) 4)), (3, .int ((R 0) 0)), (2, .int 0), (1, .int 4), (0, .ref (ad 0))]) hx hb dL_halves_35 hl (by decide) rfl (fun ls hl => ?_)
  refine lv_aload_n hx hb dL_halves_37 rfl (lv_at hl 4 rfl) ?_
  refine lv_iload_n hx hb dL_halves_38 rfl (lv_at hl 2 rfl) ?_
  refine lv_iload_n hx hb dL_halves_39 rfl (lv_at hl 1 rfl) ?_
  refine lv_iload hx hb dL_halves_40 (lv_at hl 0 rfl) ?_
  refine lv_iadd hx hb dL_halves_42 ?_
  refine cx_iast (k := 0) hx hb hK hP (hD _ _) hS 0 1 hw_0 rfl (by decide) (by decide) hw_R0 dL_halves_43 (fun H locs hP hS => ?_)
  refine lv_aload_n hx hb dL_halves_44 rfl (lv_at hl 4 rfl) ?_
  refine lv_iload_n hx hb dL_halves_45 rfl (lv_at hl 2 rfl) ?_
  refine lv_iload_n hx hb dL_halves_46 rfl (lv_at hl 3 rfl) ?_
  refine lv_iadd hx hb dL_halves_47 ?_
  refine cx_top (y := 4) (by decide) ?_
  refine lv_iload_n hx hb dL_halves_48 rfl (lv_at hl 1 rfl) ?_
  refine lv_iload hx hb dL_halves_49 (lv_at hl 0 rfl) ?_
  refine lv_isub hx hb dL_halves_51 ?_
  refine cx_iast (k := 4) hx hb hK hP (hD _ _) hS 0 1 hw_0 rfl (by decide) (by decide) hw_R0 dL_halves_52 (fun H locs hP hS => ?_)
  refine lv_iinc (k := 2) (v := (nI 1)) (lv' := [(2, .int (nI 1)), (4, .int ((R 0) 4)), (3, .int ((R 0) 0)), (1, .int 4), (0, .ref (ad 0))]) hx hb dL_halves_53 hl rfl (nI_add 0 1) (by decide) rfl (fun ls hl => ?_)
  refine lv_goto (tgt := 8) hx hb dL_halves_56 (by decide) ?_
  refine lv_iload_n hx hb dL_halves_8 rfl (lv_at hl 0 rfl) ?_
  refine lv_bipush (v := 8) hx hb dL_halves_9 (by decide) ?_
  refine lv_icmp_ge (tgt := 59) hx hb dL_halves_11 (by decide) (fun c_11 => absurd c_11 (by decide)) (fun c_11 => ?_)
  refine lv_iload_n hx hb dL_halves_14 rfl (lv_at hl 0 rfl) ?_
  refine lv_iload_n hx hb dL_halves_15 rfl (lv_at hl 3 rfl) ?_
  refine lv_idiv hx hb dL_halves_16 (by decide) ?_
  refine cx_top (y := 0) (by decide) ?_
  refine lv_iconst (v := 1) hx hb dL_halves_17 (by decide) ?_
  refine lv_iand hx hb dL_halves_18 ?_
  refine cx_top (y := 0) (by decide) ?_
  refine lv_iconst (v := 1) hx hb dL_halves_19 (by decide) ?_
  refine lv_icmp_ne (tgt := 26) hx hb dL_halves_20 (by decide) (fun c_20 => ?_) (fun c_20 => absurd c_20 (by decide))
  refine lv_aload_n hx hb dL_halves_26 rfl (lv_at hl 4 rfl) ?_
  refine lv_iload_n hx hb dL_halves_27 rfl (lv_at hl 0 rfl) ?_
  refine cx_iald (k := 1) hx hb hK hP 0 1 hw_0 rfl (by omega) (by decide) dL_halves_28 ?_
  refine cx_top (y := ((R 0) 1)) rfl ?_
  refine cx_top (y := ((R 0) 1)) rfl ?_
  refine lv_istore_n (lv' := [(3, .int ((R 0) 1)), (2, .int (nI 1)), (4, .int ((R 0) 4)), (1, .int 4), (0, .ref (ad 0))]) hx hb dL_halves_29 rfl hl (by decide) rfl (fun ls hl => ?_)
  refine lv_aload_n hx hb dL_halves_30 rfl (lv_at hl 4 rfl) ?_
  refine lv_iload_n hx hb dL_halves_31 rfl (lv_at hl 1 rfl) ?_
  refine lv_iload_n hx hb dL_halves_32 rfl (lv_at hl 3 rfl) ?_
  refine lv_iadd hx hb dL_halves_33 ?_
  refine cx_top (y := 5) (by decide) ?_
  refine cx_iald (k := 5) hx hb hK hP 0 1 hw_0 rfl (by decide) (by decide) dL_halves_34 ?_
  refine cx_top (y := ((R 0) 5)) rfl ?_
  refine cx_top (y := ((R 0) 5)) rfl ?_
  refine lv_istore (lv' := [(4, .int ((R 0) 5)), (3, .int ((R 0) 1)), (2, .int (nI 1)), (1, .int 4), (0, .ref (ad 0))]) hx hb dL_halves_35 hl (by decide) rfl (fun ls hl => ?_)
  refine lv_aload_n hx hb dL_halves_37 rfl (lv_at hl 4 rfl) ?_
  refine lv_iload_n hx hb dL_halves_38 rfl (lv_at hl 2 rfl) ?_
  refine lv_iload_n hx hb dL_halves_39 rfl (lv_at hl 1 rfl) ?_
  refine lv_iload hx hb dL_halves_40 (lv_at hl 0 rfl) ?_
  refine lv_iadd hx hb dL_halves_42 ?_
  refine cx_iast (k := 1) hx hb hK hP (hD _ _) hS 0 1 hw_0 rfl (by omega) (by decide) hw_R0 dL_halves_43 (fun H locs hP hS => ?_)
  refine lv_aload_n hx hb dL_halves_44 rfl (lv_at hl 4 rfl) ?_
  refine lv_iload_n hx hb dL_halves_45 rfl (lv_at hl 2 rfl) ?_
  refine lv_iload_n hx hb dL_halves_46 rfl (lv_at hl 3 rfl) ?_
  refine lv_iadd hx hb dL_halves_47 ?_
  refine cx_top (y := 5) (by decide) ?_
  refine lv_iload_n hx hb dL_halves_48 rfl (lv_at hl 1 rfl) ?_
  refine lv_iload hx hb dL_halves_49 (lv_at hl 0 rfl) ?_
  refine lv_isub hx hb dL_halves_51 ?_
  refine cx_iast (k := 5) hx hb hK hP (hD _ _) hS 0 1 hw_0 rfl (by decide) (by decide) hw_R0 dL_halves_52 (fun H locs hP hS => ?_)
  refine lv_iinc (k := 2) (v := (nI 2)) (lv' := [(2, .int (nI 2)), (4, .int ((R 0) 5)), (3, .int ((R 0) 1)), (1, .int 4), (0, .ref (ad 0))]) hx hb dL_halves_53 hl rfl (nI_add 1 1) (by decide) rfl (fun ls hl => ?_)
  refine lv_goto (tgt := 8) hx hb dL_halves_56 (by decide) ?_
  refine lv_iload_n hx hb dL_halves_8 rfl (lv_at hl 0 rfl) ?_
  refine lv_bipush (v := 8) hx hb dL_halves_9 (by decide) ?_
  refine lv_icmp_ge (tgt := 59) hx hb dL_halves_11 (by decide) (fun c_11 => absurd c_11 (by decide)) (fun c_11 => ?_)
  refine lv_iload_n hx hb dL_halves_14 rfl (lv_at hl 0 rfl) ?_
  refine lv_iload_n hx hb dL_halves_15 rfl (lv_at hl 3 rfl) ?_
  refine lv_idiv hx hb dL_halves_16 (by decide) ?_
  refine cx_top (y := 0) (by decide) ?_
  refine lv_iconst (v := 1) hx hb dL_halves_17 (by decide) ?_
  refine lv_iand hx hb dL_halves_18 ?_
  refine cx_top (y := 0) (by decide) ?_
  refine lv_iconst (v := 1) hx hb dL_halves_19 (by decide) ?_
  refine lv_icmp_ne (tgt := 26) hx hb dL_halves_20 (by decide) (fun c_20 => ?_) (fun c_20 => absurd c_20 (by decide))
  refine lv_aload_n hx hb dL_halves_26 rfl (lv_at hl 4 rfl) ?_
  refine lv_iload_n hx hb dL_halves_27 rfl (lv_at hl 0 rfl) ?_
  refine cx_iald (k := 2) hx hb hK hP 0 1 hw_0 rfl (by omega) (by decide) dL_halves_28 ?_
  refine cx_top (y := ((R 0) 2)) rfl ?_
  refine cx_top (y := ((R 0) 2)) rfl ?_
  refine lv_istore_n (lv' := [(3, .int ((R 0) 2)), (2, .int (nI 2)), (4, .int ((R 0) 5)), (1, .int 4), (0, .ref (ad 0))]) hx hb dL_halves_29 rfl hl (by decide) rfl (fun ls hl => ?_)
  refine lv_aload_n hx hb dL_halves_30 rfl (lv_at hl 4 rfl) ?_
  refine lv_iload_n hx hb dL_halves_31 rfl (lv_at hl 1 rfl) ?_
  refine lv_iload_n hx hb dL_halves_32 rfl (lv_at hl 3 rfl) ?_
  refine lv_iadd hx hb dL_halves_33 ?_
  refine cx_top (y := 6) (by decide) ?_
  refine cx_iald (k := 6) hx hb hK hP 0 1 hw_0 rfl (by decide) (by decide) dL_halves_34 ?_
  refine cx_top (y := ((R 0) 6)) rfl ?_
  refine cx_top (y := ((R 0) 6)) rfl ?_
  refine lv_istore (lv' := [(4, .int ((R 0) 6)), (3, .int ((R 0) 2)), (2, .int (nI 2)), (1, .int 4), (0, .ref (ad 0))]) hx hb dL_halves_35 hl (by decide) rfl (fun ls hl => ?_)
  refine lv_aload_n hx hb dL_halves_37 rfl (lv_at hl 4 rfl) ?_
  refine lv_iload_n hx hb dL_halves_38 rfl (lv_at hl 2 rfl) ?_
  refine lv_iload_n hx hb dL_halves_39 rfl (lv_at hl 1 rfl) ?_
  refine lv_iload hx hb dL_halves_40 (lv_at hl 0 rfl) ?_
  refine lv_iadd hx hb dL_halves_42 ?_
  refine cx_iast (k := 2) hx hb hK hP (hD _ _) hS 0 1 hw_0 rfl (by omega) (by decide) hw_R0 dL_halves_43 (fun H locs hP hS => ?_)
  refine lv_aload_n hx hb dL_halves_44 rfl (lv_at hl 4 rfl) ?_
  refine lv_iload_n hx hb dL_halves_45 rfl (lv_at hl 2 rfl) ?_
  refine lv_iload_n hx hb dL_halves_46 rfl (lv_at hl 3 rfl) ?_
  refine lv_iadd hx hb dL_halves_47 ?_
  refine cx_top (y := 6) (by decide) ?_
  refine lv_iload_n hx hb dL_halves_48 rfl (lv_at hl 1 rfl) ?_
  refine lv_iload hx hb dL_halves_49 (lv_at hl 0 rfl) ?_
  refine lv_isub hx hb dL_halves_51 ?_
  refine cx_iast (k := 6) hx hb hK hP (hD _ _) hS 0 1 hw_0 rfl (by decide) (by decide) hw_R0 dL_halves_52 (fun H locs hP hS => ?_)
  refine lv_iinc (k := 2) (v := (nI 3)) (lv' := [(2, .int (nI 3)), (4, .int ((R 0) 6)), (3, .int ((R 0) 2)), (1, .int 4), (0, .ref (ad 0))]) hx hb dL_halves_53 hl rfl (nI_add 2 1) (by decide) rfl (fun ls hl => ?_)
  refine lv_goto (tgt := 8) hx hb dL_halves_56 (by decide) ?_
  refine lv_iload_n hx hb dL_halves_8 rfl (lv_at hl 0 rfl) ?_
  refine lv_bipush (v := 8) hx hb dL_halves_9 (by decide) ?_
  refine lv_icmp_ge (tgt := 59) hx hb dL_halves_11 (by decide) (fun c_11 => absurd c_11 (by decide)) (fun c_11 => ?_)
  refine lv_iload_n hx hb dL_halves_14 rfl (lv_at hl 0 rfl) ?_
  refine lv_iload_n hx hb dL_halves_15 rfl (lv_at hl 3 rfl) ?_
  refine lv_idiv hx hb dL_halves_16 (by decide) ?_
  refine cx_top (y := 0) (by decide) ?_
  refine lv_iconst (v := 1) hx hb dL_halves_17 (by decide) ?_
  refine lv_iand hx hb dL_halves_18 ?_
  refine cx_top (y := 0) (by decide) ?_
  refine lv_iconst (v := 1) hx hb dL_halves_19 (by decide) ?_
  refine lv_icmp_ne (tgt := 26) hx hb dL_halves_20 (by decide) (fun c_20 => ?_) (fun c_20 => absurd c_20 (by decide))
  refine lv_aload_n hx hb dL_halves_26 rfl (lv_at hl 4 rfl) ?_
  refine lv_iload_n hx hb dL_halves_27 rfl (lv_at hl 0 rfl) ?_
  refine cx_iald (k := 3) hx hb hK hP 0 1 hw_0 rfl (by omega) (by decide) dL_halves_28 ?_
  refine cx_top (y := ((R 0) 3)) rfl ?_
  refine cx_top (y := ((R 0) 3)) rfl ?_
  refine lv_istore_n (lv' := [(3, .int ((R 0) 3)), (2, .int (nI 3)), (4, .int ((R 0) 6)), (1, .int 4), (0, .ref (ad 0))]) hx hb dL_halves_29 rfl hl (by decide) rfl (fun ls hl => ?_)
  refine lv_aload_n hx hb dL_halves_30 rfl (lv_at hl 4 rfl) ?_
  refine lv_iload_n hx hb dL_halves_31 rfl (lv_at hl 1 rfl) ?_
  refine lv_iload_n hx hb dL_halves_32 rfl (lv_at hl 3 rfl) ?_
  refine lv_iadd hx hb dL_halves_33 ?_
  refine cx_top (y := 7) (by decide) ?_
  refine cx_iald (k := 7) hx hb hK hP 0 1 hw_0 rfl (by decide) (by decide) dL_halves_34 ?_
  refine cx_top (y := ((R 0) 7)) rfl ?_
  refine cx_top (y := ((R 0) 7)) rfl ?_
  refine lv_istore (lv' := [(4, .int ((R 0) 7)), (3, .int ((R 0) 3)), (2, .int (nI 3)), (1, .int 4), (0, .ref (ad 0))]) hx hb dL_halves_35 hl (by decide) rfl (fun ls hl => ?_)
  refine lv_aload_n hx hb dL_halves_37 rfl (lv_at hl 4 rfl) ?_
  refine lv_iload_n hx hb dL_halves_38 rfl (lv_at hl 2 rfl) ?_
  refine lv_iload_n hx hb dL_halves_39 rfl (lv_at hl 1 rfl) ?_
  refine lv_iload hx hb dL_halves_40 (lv_at hl 0 rfl) ?_
  refine lv_iadd hx hb dL_halves_42 ?_
  refine cx_iast (k := 3) hx hb hK hP (hD _ _) hS 0 1 hw_0 rfl (by omega) (by decide) hw_R0 dL_halves_43 (fun H locs hP hS => ?_)
  refine lv_aload_n hx hb dL_halves_44 rfl (lv_at hl 4 rfl) ?_
  refine lv_iload_n hx hb dL_halves_45 rfl (lv_at hl 2 rfl) ?_
  refine lv_iload_n hx hb dL_halves_46 rfl (lv_at hl 3 rfl) ?_
  refine lv_iadd hx hb dL_halves_47 ?_
  refine cx_top (y := 7) (by decide) ?_
  refine lv_iload_n hx hb dL_halves_48 rfl (lv_at hl 1 rfl) ?_
  refine lv_iload hx hb dL_halves_49 (lv_at hl 0 rfl) ?_
  refine lv_isub hx hb dL_halves_51 ?_
  refine cx_iast (k := 7) hx hb hK hP (hD _ _) hS 0 1 hw_0 rfl (by decide) (by decide) hw_R0 dL_halves_52 (fun H locs hP hS => ?_)
  refine lv_iinc (k := 2) (v := (nI 4)) (lv' := [(2, .int (nI 4)), (4, .int ((R 0) 7)), (3, .int ((R 0) 3)), (1, .int 4), (0, .ref (ad 0))]) hx hb dL_halves_53 hl rfl (nI_add 3 1) (by decide) rfl (fun ls hl => ?_)
  refine lv_goto (tgt := 8) hx hb dL_halves_56 (by decide) ?_
  refine lv_iload_n hx hb dL_halves_8 rfl (lv_at hl 0 rfl) ?_
  refine lv_bipush (v := 8) hx hb dL_halves_9 (by decide) ?_
  refine lv_icmp_ge (tgt := 59) hx hb dL_halves_11 (by decide) (fun c_11 => absurd c_11 (by decide)) (fun c_11 => ?_)
  refine lv_iload_n hx hb dL_halves_14 rfl (lv_at hl 0 rfl) ?_
  refine lv_iload_n hx hb dL_halves_15 rfl (lv_at hl 3 rfl) ?_
  refine lv_idiv hx hb dL_halves_16 (by decide) ?_
  refine cx_top (y := 1) (by decide) ?_
  refine lv_iconst (v := 1) hx hb dL_halves_17 (by decide) ?_
  refine lv_iand hx hb dL_halves_18 ?_
  refine cx_top (y := 1) (by decide) ?_
  refine lv_iconst (v := 1) hx hb dL_halves_19 (by decide) ?_
  refine lv_icmp_ne (tgt := 26) hx hb dL_halves_20 (by decide) (fun c_20 => absurd c_20 (by decide)) (fun c_20 => ?_)
  refine lv_goto (tgt := 53) hx hb dL_halves_23 (by decide) ?_
  refine lv_iinc (k := 0) (v := (nI 5)) (lv' := [(2, .int (nI 5)), (4, .int ((R 0) 7)), (3, .int ((R 0) 3)), (1, .int 4), (0, .ref (ad 0))]) hx hb dL_halves_53 hl rfl (nI_add 4 1) (by decide) rfl (fun ls hl => ?_)
  refine lv_goto (tgt := 8) hx hb dL_halves_56 (by decide) ?_
  refine lv_iload_n hx hb dL_halves_8 rfl (lv_at hl 0 rfl) ?_
  refine lv_bipush (v := 8) hx hb dL_halves_9 (by decide) ?_
  refine lv_icmp_ge (tgt := 59) hx hb dL_halves_11 (by decide) (fun c_11 => absurd c_11 (by decide)) (fun c_11 => ?_)
  refine lv_iload_n hx hb dL_halves_14 rfl (lv_at hl 0 rfl) ?_
  refine lv_iload_n hx hb dL_halves_15 rfl (lv_at hl 3 rfl) ?_
  refine lv_idiv hx hb dL_halves_16 (by decide) ?_
  refine cx_top (y := 1) (by decide) ?_
  refine lv_iconst (v := 1) hx hb dL_halves_17 (by decide) ?_
  refine lv_iand hx hb dL_halves_18 ?_
  refine cx_top (y := 1) (by decide) ?_
  refine lv_iconst (v := 1) hx hb dL_halves_19 (by decide) ?_
  refine lv_icmp_ne (tgt := 26) hx hb dL_halves_20 (by decide) (fun c_20 => absurd c_20 (by decide)) (fun c_20 => ?_)
  refine lv_goto (tgt := 53) hx hb dL_halves_23 (by decide) ?_
  refine lv_iinc (k := 0) (v := (nI 6)) (lv' := [(2, .int (nI 6)), (4, .int ((R 0) 7)), (3, .int ((R 0) 3)), (1, .int 4), (0, .ref (ad 0))]) hx hb dL_halves_53 hl rfl (nI_add 5 1) (by decide) rfl (fun ls hl => ?_)
  refine lv_goto (tgt := 8) hx hb dL_halves_56 (by decide) ?_
  refine lv_iload_n hx hb dL_halves_8 rfl (lv_at hl 0 rfl) ?_
  refine lv_bipush (v := 8) hx hb dL_halves_9 (by decide) ?_
  refine lv_icmp_ge (tgt := 59) hx hb dL_halves_11 (by decide) (fun c_11 => absurd c_11 (by decide)) (fun c_11 => ?_)
  refine lv_iload_n hx hb dL_halves_14 rfl (lv_at hl 0 rfl) ?_
  refine lv_iload_n hx hb dL_halves_15 rfl (lv_at hl 3 rfl) ?_
  refine lv_idiv hx hb dL_halves_16 (by decide) ?_
  refine cx_top (y := 1) (by decide) ?_
  refine lv_iconst (v := 1) hx hb dL_halves_17 (by decide) ?_
  refine lv_iand hx hb dL_halves_18 ?_
  refine cx_top (y := 1) (by decide) ?_
  refine lv_iconst (v := 1) hx hb dL_halves_19 (by decide) ?_
  refine lv_icmp_ne (tgt := 26) hx hb dL_halves_20 (by decide) (fun c_20 => absurd c_20 (by decide)) (fun c_20 => ?_)
  refine lv_goto (tgt := 53) hx hb dL_halves_23 (by decide) ?_
  refine lv_iinc (k := 0) (v := (nI 7)) (lv' := [(2, .int (nI 7)), (4, .int ((R 0) 7)), (3, .int ((R 0) 3)), (1, .int 4), (0, .ref (ad 0))]) hx hb dL_halves_53 hl rfl (nI_add 6 1) (by decide) rfl (fun ls hl => ?_)
  refine lv_goto (tgt := 8) hx hb dL_halves_56 (by decide) ?_
  refine lv_iload_n hx hb dL_halves_8 rfl (lv_at hl 0 rfl) ?_
  refine lv_bipush (v := 8) hx hb dL_halves_9 (by decide) ?_
  refine lv_icmp_ge (tgt := 59) hx hb dL_halves_11 (by decide) (fun c_11 => absurd c_11 (by decide)) (fun c_11 => ?_)
  refine lv_iload_n hx hb dL_halves_14 rfl (lv_at hl 0 rfl) ?_
  refine lv_iload_n hx hb dL_halves_15 rfl (lv_at hl 3 rfl) ?_
  refine lv_idiv hx hb dL_halves_16 (by decide) ?_
  refine cx_top (y := 1) (by decide) ?_
  refine lv_iconst (v := 1) hx hb dL_halves_17 (by decide) ?_
  refine lv_iand hx hb dL_halves_18 ?_
  refine cx_top (y := 1) (by decide) ?_
  refine lv_iconst (v := 1) hx hb dL_halves_19 (by decide) ?_
  refine lv_icmp_ne (tgt := 26) hx hb dL_halves_20 (by decide) (fun c_20 => absurd c_20 (by decide)) (fun c_20 => ?_)
  refine lv_goto (tgt := 53) hx hb dL_halves_23 (by decide) ?_
  refine lv_iinc (k := 0) (v := (nI 8)) (lv' := [(2, .int (nI 8)), (4, .int ((R 0) 7)), (3, .int ((R 0) 3)), (1, .int 4), (0, .ref (ad 0))]) hx hb dL_halves_53 hl rfl (nI_add 7 1) (by decide) rfl (fun ls hl => ?_)
  refine lv_goto (tgt := 8) hx hb dL_halves_56 (by decide) ?_
  refine lv_iload_n hx hb dL_halves_8 rfl (lv_at hl 0 rfl) ?_
  refine lv_bipush (v := 8) hx hb dL_halves_9 (by decide) ?_
  refine lv_icmp_ge (tgt := 59) hx hb dL_halves_11 (by decide) (fun c_11 => ?_) (fun c_11 => absurd c_11 (by decide))
  refine lv_iload_n hx hb dL_halves_59 rfl (lv_at hl 3 rfl) ?_
  refine lv_iconst (v := 2) hx hb dL_halves_60 (by decide) ?_
  refine lv_idiv hx hb dL_halves_61 (by decide) ?_
  refine cx_top (y := 2) (by decide) ?_
  refine lv_istore_n (lv' := [(1, .int 2), (2, .int (nI 8)), (4, .int ((R 0) 7)), (3, .int ((R 0) 3)), (0, .ref (ad 0))]) hx hb dL_halves_62 rfl hl (by decide) rfl (fun ls hl => ?_)
  refine lv_goto (tgt := 2) hx hb dL_halves_63 (by decide) ?_
  refine lv_iload_n hx hb dL_halves_2 rfl (lv_at hl 0 rfl) ?_
  refine lv_if_le (tgt := 66) hx hb dL_halves_3 (by decide) (fun c_3 => absurd c_3 (by decide)) (fun c_3 => ?_)
  refine lv_iconst (v := 0) hx hb dL_halves_6 (by decide) ?_
  refine lv_istore_n (lv' := [(2, .int 0), (1, .int 2), (4, .int ((R 0) 7)), (3, .int ((R 0) 3)), (0, .ref (ad 0))]) hx hb dL_halves_7 rfl hl (by decide) rfl (fun ls hl => ?_)
  refine lv_iload_n hx hb dL_halves_8 rfl (lv_at hl 0 rfl) ?_
  refine lv_bipush (v := 8) hx hb dL_halves_9 (by decide) ?_
  refine lv_icmp_ge (tgt := 59) hx hb dL_halves_11 (by decide) (fun c_11 => absurd c_11 (by decide)) (fun c_11 => ?_)
  refine lv_iload_n hx hb dL_halves_14 rfl (lv_at hl 0 rfl) ?_
  refine lv_iload_n hx hb dL_halves_15 rfl (lv_at hl 1 rfl) ?_
  refine lv_idiv hx hb dL_halves_16 (by decide) ?_
  refine cx_top (y := 0) (by decide) ?_
  refine lv_iconst (v := 1) hx hb dL_halves_17 (by decide) ?_
  refine lv_iand hx hb dL_halves_18 ?_
  refine cx_top (y := 0) (by decide) ?_
  refine lv_iconst (v := 1) hx hb dL_halves_19 (by decide) ?_
  refine lv_icmp_ne (tgt := 26) hx hb dL_halves_20 (by decide) (fun c_20 => ?_) (fun c_20 => absurd c_20 (by decide))
  refine lv_aload_n hx hb dL_halves_26 rfl (lv_at hl 4 rfl) ?_
  refine lv_iload_n hx hb dL_halves_27 rfl (lv_at hl 0 rfl) ?_
  refine cx_iald (k := 0) hx hb hK hP 0 1 hw_0 rfl (by decide) (by decide) dL_halves_28 ?_
  refine cx_top (y := (((R 0) 0) + ((R 0) 4))) rfl ?_
  refine cx_top (y := (((R 0) 0) + ((R 0) 4))) rfl ?_
  refine lv_istore_n (lv' := [(3, .int (((R 0) 0) + ((R 0) 4))), (2, .int 0), (1, .int 2), (4, .int ((R 0) 7)), (0, .ref (ad 0))]) hx hb dL_halves_29 rfl hl (by decide) rfl (fun ls hl => ?_)
  refine lv_aload_n hx hb dL_halves_30 rfl (lv_at hl 4 rfl) ?_
  refine lv_iload_n hx hb dL_halves_31 rfl (lv_at hl 1 rfl) ?_
  refine lv_iload_n hx hb dL_halves_32 rfl (lv_at hl 2 rfl) ?_
  refine lv_iadd hx hb dL_halves_33 ?_
  refine cx_top (y := 2) (by decide) ?_
  refine cx_iald (k := 2) hx hb hK hP 0 1 hw_0 rfl (by decide) (by decide) dL_halves_34 ?_
  refine cx_top (y := (((R 0) 2) + ((R 0) 6))) rfl ?_
  refine cx_top (y := (((R 0) 2) + ((R 0) 6))) rfl ?_
  refine lv_istore (lv' := [(4, .int (((R 0) 2) + ((R 0) 6))), (3, .int (((R 0) 0) + ((R 0) 4))), (2, .int 0), (1, .int 2), (0, .ref (ad 0))]) hx hb dL_halves_35 hl (by decide) rfl (fun ls hl => ?_)
  refine lv_aload_n hx hb dL_halves_37 rfl (lv_at hl 4 rfl) ?_
  refine lv_iload_n hx hb dL_halves_38 rfl (lv_at hl 2 rfl) ?_
  refine lv_iload_n hx hb dL_halves_39 rfl (lv_at hl 1 rfl) ?_
  refine lv_iload hx hb dL_halves_40 (lv_at hl 0 rfl) ?_
  refine lv_iadd hx hb dL_halves_42 ?_
  refine cx_iast (k := 0) hx hb hK hP (hD _ _) hS 0 1 hw_0 rfl (by decide) (by decide) hw_R0 dL_halves_43 (fun H locs hP hS => ?_)
  refine lv_aload_n hx hb dL_halves_44 rfl (lv_at hl 4 rfl) ?_
  refine lv_iload_n hx hb dL_halves_45 rfl (lv_at hl 2 rfl) ?_
  refine lv_iload_n hx hb dL_halves_46 rfl (lv_at hl 3 rfl) ?_
  refine lv_iadd hx hb dL_halves_47 ?_
  refine cx_top (y := 2) (by decide) ?_
  refine lv_iload_n hx hb dL_halves_48 rfl (lv_at hl 1 rfl) ?_
  refine lv_iload hx hb dL_halves_49 (lv_at hl 0 rfl) ?_
  refine lv_isub hx hb dL_halves_51 ?_
  refine cx_iast (k := 2) hx hb hK hP (hD _ _) hS 0 1 hw_0 rfl (by decide) (by decide) hw_R0 dL_halves_52 (fun H locs hP hS => ?_)
  refine lv_iinc (k := 2) (v := (nI 1)) (lv' := [(2, .int (nI 1)), (4, .int (((R 0) 2) + ((R 0) 6))), (3, .int (((R 0) 0) + ((R 0) 4))), (1, .int 2), (0, .ref (ad 0))]) hx hb dL_halves_53 hl rfl (nI_add 0 1) (by decide) rfl (fun ls hl => ?_)
  refine lv_goto (tgt := 8) hx hb dL_halves_56 (by decide) ?_
  refine lv_iload_n hx hb dL_halves_8 rfl (lv_at hl 0 rfl) ?_
  refine lv_bipush (v := 8) hx hb dL_halves_9 (by decide) ?_
  refine lv_icmp_ge (tgt := 59) hx hb dL_halves_11 (by decide) (fun c_11 => absurd c_11 (by decide)) (fun c_11 => ?_)
  refine lv_iload_n hx hb dL_halves_14 rfl (lv_at hl 0 rfl) ?_
  refine lv_iload_n hx hb dL_halves_15 rfl (lv_at hl 3 rfl) ?_
  refine lv_idiv hx hb dL_halves_16 (by decide) ?_
  refine cx_top (y := 0) (by decide) ?_
  refine lv_iconst (v := 1) hx hb dL_halves_17 (by decide) ?_
  refine lv_iand hx hb dL_halves_18 ?_
  refine cx_top (y := 0) (by decide) ?_
  refine lv_iconst (v := 1) hx hb dL_halves_19 (by decide) ?_
  refine lv_icmp_ne (tgt := 26) hx hb dL_halves_20 (by decide) (fun c_20 => ?_) (fun c_20 => absurd c_20 (by decide))
  refine lv_aload_n hx hb dL_halves_26 rfl (lv_at hl 4 rfl) ?_
  refine lv_iload_n hx hb dL_halves_27 rfl (lv_at hl 0 rfl) ?_
  refine cx_iald (k := 1) hx hb hK hP 0 1 hw_0 rfl (by omega) (by decide) dL_halves_28 ?_
  refine cx_top (y := (((R 0) 1) + ((R 0) 5))) rfl ?_
  refine cx_top (y := (((R 0) 1) + ((R 0) 5))) rfl ?_
  refine lv_istore_n (lv' := [(3, .int (((R 0) 1) + ((R 0) 5))), (2, .int (nI 1)), (4, .int (((R 0) 2) + ((R 0) 6))), (1, .int 2), (0, .ref (ad 0))]) hx hb dL_halves_29 rfl hl (by decide) rfl (fun ls hl => ?_)
  refine lv_aload_n hx hb dL_halves_30 rfl (lv_at hl 4 rfl) ?_
  refine lv_iload_n hx hb dL_halves_31 rfl (lv_at hl 1 rfl) ?_
  refine lv_iload_n hx hb dL_halves_32 rfl (lv_at hl 3 rfl) ?_
  refine lv_iadd hx hb dL_halves_33 ?_
  refine cx_top (y := 3) (by decide) ?_
  refine cx_iald (k := 3) hx hb hK hP 0 1 hw_0 rfl (by decide) (by decide) dL_halves_34 ?_
  refine cx_top (y := (((R 0) 3) + ((R 0) 7))) rfl ?_
  refine cx_top (y := (((R 0) 3) + ((R 0) 7))) rfl ?_
  refine lv_istore (lv' := [(4, .int (((R 0) 3) + ((R 0) 7))), (3, .int (((R 0) 1) + ((R 0) 5))), (2, .int (nI 1)), (1, .int 2), (0, .ref (ad 0))]) hx hb dL_halves_35 hl (by decide) rfl (fun ls hl => ?_)
  refine lv_aload_n hx hb dL_halves_37 rfl (lv_at hl 4 rfl) ?_
  refine lv_iload_n hx hb dL_halves_38 rfl (lv_at hl 2 rfl) ?_
  refine lv_iload_n hx hb dL_halves_39 rfl (lv_at hl 1 rfl) ?_
  refine lv_iload hx hb dL_halves_40 (lv_at hl 0 rfl) ?_
  refine lv_iadd hx hb dL_halves_42 ?_
  refine cx_iast (k := 1) hx hb hK hP (hD _ _) hS 0 1 hw_0 rfl (by omega) (by decide) hw_R0 dL_halves_43 (fun H locs hP hS => ?_)
  refine lv_aload_n hx hb dL_halves_44 rfl (lv_at hl 4 rfl) ?_
  refine lv_iload_n hx hb dL_halves_45 rfl (lv_at hl 2 rfl) ?_
  refine lv_iload_n hx hb dL_halves_46 rfl (lv_at hl 3 rfl) ?_
  refine lv_iadd hx hb dL_halves_47 ?_
  refine cx_top (y := 3) (by decide) ?_
  refine lv_iload_n hx hb dL_halves_48 rfl (lv_at hl 1 rfl) ?_
  refine lv_iload hx hb dL_halves_49 (lv_at hl 0 rfl) ?_
  refine lv_isub hx hb dL_halves_51 ?_
  refine cx_iast (k := 3) hx hb hK hP (hD _ _) hS 0 1 hw_0 rfl (by decide) (by decide) hw_R0 dL_halves_52 (fun H locs hP hS => ?_)
  refine lv_iinc (k := 2) (v := (nI 2)) (lv' := [(2, .int (nI 2)), (4, .int (((R 0) 3) + ((R 0) 7))), (3, .int (((R 0) 1) + ((R 0) 5))), (1, .int 2), (0, .ref (ad 0))]) hx hb dL_halves_53 hl rfl (nI_add 1 1) (by decide) rfl (fun ls hl => ?_)
  refine lv_goto (tgt := 8) hx hb dL_halves_56 (by decide) ?_
  refine lv_iload_n hx hb dL_halves_8 rfl (lv_at hl 0 rfl) ?_
  refine lv_bipush (v := 8) hx hb dL_halves_9 (by decide) ?_
  refine lv_icmp_ge (tgt := 59) hx hb dL_halves_11 (by decide) (fun c_11 => absurd c_11 (by decide)) (fun c_11 => ?_)
  refine lv_iload_n hx hb dL_halves_14 rfl (lv_at hl 0 rfl) ?_
  refine lv_iload_n hx hb dL_halves_15 rfl (lv_at hl 3 rfl) ?_
  refine lv_idiv hx hb dL_halves_16 (by decide) ?_
  refine cx_top (y := 1) (by decide) ?_
  refine lv_iconst (v := 1) hx hb dL_halves_17 (by decide) ?_
  refine lv_iand hx hb dL_halves_18 ?_
  refine cx_top (y := 1) (by decide) ?_
  refine lv_iconst (v := 1) hx hb dL_halves_19 (by decide) ?_
  refine lv_icmp_ne (tgt := 26) hx hb dL_halves_20 (by decide) (fun c_20 => absurd c_20 (by decide)) (fun c_20 => ?_)
  refine lv_goto (tgt := 53) hx hb dL_halves_23 (by decide) ?_
  refine lv_iinc (k := 0) (v := (nI 3)) (lv' := [(2, .int (nI 3)), (4, .int (((R 0) 3) + ((R 0) 7))), (3, .int (((R 0) 1) + ((R 0) 5))), (1, .int 2), (0, .ref (ad 0))]) hx hb dL_halves_53 hl rfl (nI_add 2 1) (by decide) rfl (fun ls hl => ?_)
  refine lv_goto (tgt := 8) hx hb dL_halves_56 (by decide) ?_
  refine lv_iload_n hx hb dL_halves_8 rfl (lv_at hl 0 rfl) ?_
  refine lv_bipush (v := 8) hx hb dL_halves_9 (by decide) ?_
  refine lv_icmp_ge (tgt := 59) hx hb dL_halves_11 (by decide) (fun c_11 => absurd c_11 (by decide)) (fun c_11 => ?_)
  refine lv_iload_n hx hb dL_halves_14 rfl (lv_at hl 0 rfl) ?_
  refine lv_iload_n hx hb dL_halves_15 rfl (lv_at hl 3 rfl) ?_
  refine lv_idiv hx hb dL_halves_16 (by decide) ?_
  refine cx_top (y := 1) (by decide) ?_
  refine lv_iconst (v := 1) hx hb dL_halves_17 (by decide) ?_
  refine lv_iand hx hb dL_halves_18 ?_
  refine cx_top (y := 1) (by decide) ?_
  refine lv_iconst (v := 1) hx hb dL_halves_19 (by decide) ?_
  refine lv_icmp_ne (tgt := 26) hx hb dL_halves_20 (by decide) (fun c_20 => absurd c_20 (by decide)) (fun c_20 => ?_)
  refine lv_goto (tgt := 53) hx hb dL_halves_23 (by decide) ?_
  refine lv_iinc (k := 0) (v := (nI 4)) (lv' := [(2, .int (nI 4)), (4, .int (((R 0) 3) + ((R 0) 7))), (3, .int (((R 0) 1) + ((R 0) 5))), (1, .int 2), (0, .ref (ad 0))]) hx hb dL_halves_53 hl rfl (nI_add 3 1) (by decide) rfl (fun ls hl => ?_)
  refine lv_goto (tgt := 8) hx hb dL_halves_56 (by decide) ?_
  refine lv_iload_n hx hb dL_halves_8 rfl (lv_at hl 0 rfl) ?_
  refine lv_bipush (v := 8) hx hb dL_halves_9 (by decide) ?_
  refine lv_icmp_ge (tgt := 59) hx hb dL_halves_11 (by decide) (fun c_11 => absurd c_11 (by decide)) (fun c_11 => ?_)
  refine lv_iload_n hx hb dL_halves_14 rfl (lv_at hl 0 rfl) ?_
  refine lv_iload_n hx hb dL_halves_15 rfl (lv_at hl 3 rfl) ?_
  refine lv_idiv hx hb dL_halves_16 (by decide) ?_
  refine cx_top (y := 2) (by decide) ?_
  refine lv_iconst (v := 1) hx hb dL_halves_17 (by decide) ?_
  refine lv_iand hx hb dL_halves_18 ?_
  refine cx_top (y := 0) (by decide) ?_
  refine lv_iconst (v := 1) hx hb dL_halves_19 (by decide) ?_
  refine lv_icmp_ne (tgt := 26) hx hb dL_halves_20 (by decide) (fun c_20 => ?_) (fun c_20 => absurd c_20 (by decide))
  refine lv_aload_n hx hb dL_halves_26 rfl (lv_at hl 4 rfl) ?_
  refine lv_iload_n hx hb dL_halves_27 rfl (lv_at hl 0 rfl) ?_
  refine cx_iald (k := 4) hx hb hK hP 0 1 hw_0 rfl (by omega) (by decide) dL_halves_28 ?_
  refine cx_top (y := (((R 0) 0) - ((R 0) 4))) rfl ?_
  refine cx_top (y := (((R 0) 0) - ((R 0) 4))) rfl ?_
  refine lv_istore_n (lv' := [(3, .int (((R 0) 0) - ((R 0) 4))), (2, .int (nI 4)), (4, .int (((R 0) 3) + ((R 0) 7))), (1, .int 2), (0, .ref (ad 0))]) hx hb dL_halves_29 rfl hl (by decide) rfl (fun ls hl => ?_)
  refine lv_aload_n hx hb dL_halves_30 rfl (lv_at hl 4 rfl) ?_
  refine lv_iload_n hx hb dL_halves_31 rfl (lv_at hl 1 rfl) ?_
  refine lv_iload_n hx hb dL_halves_32 rfl (lv_at hl 3 rfl) ?_
  refine lv_iadd hx hb dL_halves_33 ?_
  refine cx_top (y := 6) (by decide) ?_
  refine cx_iald (k := 6) hx hb hK hP 0 1 hw_0 rfl (by decide) (by decide) dL_halves_34 ?_
  refine cx_top (y := (((R 0) 2) - ((R 0) 6))) rfl ?_
  refine cx_top (y := (((R 0) 2) - ((R 0) 6))) rfl ?_
  refine lv_istore (lv' := [(4, .int (((R 0) 2) - ((R 0) 6))), (3, .int (((R 0) 0) - ((R 0) 4))), (2, .int (nI 4)), (1, .int 2), (0, .ref (ad 0))]) hx hb dL_halves_35 hl (by decide) rfl (fun ls hl => ?_)
  refine lv_aload_n hx hb dL_halves_37 rfl (lv_at hl 4 rfl) ?_
  refine lv_iload_n hx hb dL_halves_38 rfl (lv_at hl 2 rfl) ?_
  refine lv_iload_n hx hb dL_halves_39 rfl (lv_at hl 1 rfl) ?_
  refine lv_iload hx hb dL_halves_40 (lv_at hl 0 rfl) ?_
  refine lv_iadd hx hb dL_halves_42 ?_
  refine cx_iast (k := 4) hx hb hK hP (hD _ _) hS 0 1 hw_0 rfl (by omega) (by decide) hw_R0 dL_halves_43 (fun H locs hP hS => ?_)
  refine lv_aload_n hx hb dL_halves_44 rfl (lv_at hl 4 rfl) ?_
  refine lv_iload_n hx hb dL_halves_45 rfl (lv_at hl 2 rfl) ?_
  refine lv_iload_n hx hb dL_halves_46 rfl (lv_at hl 3 rfl) ?_
  refine lv_iadd hx hb dL_halves_47 ?_
  refine cx_top (y := 6) (by decide) ?_
  refine lv_iload_n hx hb dL_halves_48 rfl (lv_at hl 1 rfl) ?_
  refine lv_iload hx hb dL_halves_49 (lv_at hl 0 rfl) ?_
  refine lv_isub hx hb dL_halves_51 ?_
  refine cx_iast (k := 6) hx hb hK hP (hD _ _) hS 0 1 hw_0 rfl (by decide) (by decide) hw_R0 dL_halves_52 (fun H locs hP hS => ?_)
  refine lv_iinc (k := 2) (v := (nI 5)) (lv' := [(2, .int (nI 5)), (4, .int (((R 0) 2) - ((R 0) 6))), (3, .int (((R 0) 0) - ((R 0) 4))), (1, .int 2), (0, .ref (ad 0))]) hx hb dL_halves_53 hl rfl (nI_add 4 1) (by decide) rfl (fun ls hl => ?_)
  refine lv_goto (tgt := 8) hx hb dL_halves_56 (by decide) ?_
  refine lv_iload_n hx hb dL_halves_8 rfl (lv_at hl 0 rfl) ?_
  refine lv_bipush (v := 8) hx hb dL_halves_9 (by decide) ?_
  refine lv_icmp_ge (tgt := 59) hx hb dL_halves_11 (by decide) (fun c_11 => absurd c_11 (by decide)) (fun c_11 => ?_)
  refine lv_iload_n hx hb dL_halves_14 rfl (lv_at hl 0 rfl) ?_
  refine lv_iload_n hx hb dL_halves_15 rfl (lv_at hl 3 rfl) ?_
  refine lv_idiv hx hb dL_halves_16 (by decide) ?_
  refine cx_top (y := 2) (by decide) ?_
  refine lv_iconst (v := 1) hx hb dL_halves_17 (by decide) ?_
  refine lv_iand hx hb dL_halves_18 ?_
  refine cx_top (y := 0) (by decide) ?_
  refine lv_iconst (v := 1) hx hb dL_halves_19 (by decide) ?_
  refine lv_icmp_ne (tgt := 26) hx hb dL_halves_20 (by decide) (fun c_20 => ?_) (fun c_20 => absurd c_20 (by decide))
  refine lv_aload_n hx hb dL_halves_26 rfl (lv_at hl 4 rfl) ?_
  refine lv_iload_n hx hb dL_halves_27 rfl (lv_at hl 0 rfl) ?_
  refine cx_iald (k := 5) hx hb hK hP 0 1 hw_0 rfl (by omega) (by decide) dL_halves_28 ?_
  refine cx_top (y := (((R 0) 1) - ((R 0) 5))) rfl ?_
  refine cx_top (y := (((R 0) 1) - ((R 0) 5))) rfl ?_
  refine lv_istore_n (lv' := [(3, .int (((R 0) 1) - ((R 0) 5))), (2, .int (nI 5)), (4, .int (((R 0) 2) - ((R 0) 6))), (1, .int 2), (0, .ref (ad 0))]) hx hb dL_halves_29 rfl hl (by decide) rfl (fun ls hl => ?_)
  refine lv_aload_n hx hb dL_halves_30 rfl (lv_at hl 4 rfl) ?_
  refine lv_iload_n hx hb dL_halves_31 rfl (lv_at hl 1 rfl) ?_
  refine lv_iload_n hx hb dL_halves_32 rfl (lv_at hl 3 rfl) ?_
  refine lv_iadd hx hb dL_halves_33 ?_
  refine cx_top (y := 7) (by decide) ?_
  refine cx_iald (k := 7) hx hb hK hP 0 1 hw_0 rfl (by decide) (by decide) dL_halves_34 ?_
  refine cx_top (y := (((R 0) 3) - ((R 0) 7))) rfl ?_
  refine cx_top (y := (((R 0) 3) - ((R 0) 7))) rfl ?_
  refine lv_istore (lv' := [(4, .int (((R 0) 3) - ((R 0) 7))), (3, .int (((R 0) 1) - ((R 0) 5))), (2, .int (nI 5)), (1, .int 2), (0, .ref (ad 0))]) hx hb dL_halves_35 hl (by decide) rfl (fun ls hl => ?_)
  refine lv_aload_n hx hb dL_halves_37 rfl (lv_at hl 4 rfl) ?_
  refine lv_iload_n hx hb dL_halves_38 rfl (lv_at hl 2 rfl) ?_
  refine lv_iload_n hx hb dL_halves_39 rfl (lv_at hl 1 rfl) ?_
  refine lv_iload hx hb dL_halves_40 (lv_at hl 0 rfl) ?_
  refine lv_iadd hx hb dL_halves_42 ?_
  refine cx_iast (k := 5) hx hb hK hP (hD _ _) hS 0 1 hw_0 rfl (by omega) (by decide) hw_R0 dL_halves_43 (fun H locs hP hS => ?_)
  refine lv_aload_n hx hb dL_halves_44 rfl (lv_at hl 4 rfl) ?_
  refine lv_iload_n hx hb dL_halves_45 rfl (lv_at hl 2 rfl) ?_
  refine lv_iload_n hx hb dL_halves_46 rfl (lv_at hl 3 rfl) ?_
  refine lv_iadd hx hb dL_halves_47 ?_
  refine cx_top (y := 7) (by decide) ?_
  refine lv_iload_n hx hb dL_halves_48 rfl (lv_at hl 1 rfl) ?_
  refine lv_iload hx hb dL_halves_49 (lv_at hl 0 rfl) ?_
  refine lv_isub hx hb dL_halves_51 ?_
  refine cx_iast (k := 7) hx hb hK hP (hD _ _) hS 0 1 hw_0 rfl (by decide) (by decide) hw_R0 dL_halves_52 (fun H locs hP hS => ?_)
  refine lv_iinc (k := 2) (v := (nI 6)) (lv' := [(2, .int (nI 6)), (4, .int (((R 0) 3) - ((R 0) 7))), (3, .int (((R 0) 1) - ((R 0) 5))), (1, .int 2), (0, .ref (ad 0))]) hx hb dL_halves_53 hl rfl (nI_add 5 1) (by decide) rfl (fun ls hl => ?_)
  refine lv_goto (tgt := 8) hx hb dL_halves_56 (by decide) ?_
  refine lv_iload_n hx hb dL_halves_8 rfl (lv_at hl 0 rfl) ?_
  refine lv_bipush (v := 8) hx hb dL_halves_9 (by decide) ?_
  refine lv_icmp_ge (tgt := 59) hx hb dL_halves_11 (by decide) (fun c_11 => absurd c_11 (by decide)) (fun c_11 => ?_)
  refine lv_iload_n hx hb dL_halves_14 rfl (lv_at hl 0 rfl) ?_
  refine lv_iload_n hx hb dL_halves_15 rfl (lv_at hl 3 rfl) ?_
  refine lv_idiv hx hb dL_halves_16 (by decide) ?_
  refine cx_top (y := 3) (by decide) ?_
  refine lv_iconst (v := 1) hx hb dL_halves_17 (by decide) ?_
  refine lv_iand hx hb dL_halves_18 ?_
  refine cx_top (y := 1) (by decide) ?_
  refine lv_iconst (v := 1) hx hb dL_halves_19 (by decide) ?_
  refine lv_icmp_ne (tgt := 26) hx hb dL_halves_20 (by decide) (fun c_20 => absurd c_20 (by decide)) (fun c_20 => ?_)
  refine lv_goto (tgt := 53) hx hb dL_halves_23 (by decide) ?_
  refine lv_iinc (k := 0) (v := (nI 7)) (lv' := [(2, .int (nI 7)), (4, .int (((R 0) 3) - ((R 0) 7))), (3, .int (((R 0) 1) - ((R 0) 5))), (1, .int 2), (0, .ref (ad 0))]) hx hb dL_halves_53 hl rfl (nI_add 6 1) (by decide) rfl (fun ls hl => ?_)
  refine lv_goto (tgt := 8) hx hb dL_halves_56 (by decide) ?_
  refine lv_iload_n hx hb dL_halves_8 rfl (lv_at hl 0 rfl) ?_
  refine lv_bipush (v := 8) hx hb dL_halves_9 (by decide) ?_
  refine lv_icmp_ge (tgt := 59) hx hb dL_halves_11 (by decide) (fun c_11 => absurd c_11 (by decide)) (fun c_11 => ?_)
  refine lv_iload_n hx hb dL_halves_14 rfl (lv_at hl 0 rfl) ?_
  refine lv_iload_n hx hb dL_halves_15 rfl (lv_at hl 3 rfl) ?_
  refine lv_idiv hx hb dL_halves_16 (by decide) ?_
  refine cx_top (y := 3) (by decide) ?_
  refine lv_iconst (v := 1) hx hb dL_halves_17 (by decide) ?_
  refine lv_iand hx hb dL_halves_18 ?_
  refine cx_top (y := 1) (by decide) ?_
  refine lv_iconst (v := 1) hx hb dL_halves_19 (by decide) ?_
  refine lv_icmp_ne (tgt := 26) hx hb dL_halves_20 (by decide) (fun c_20 => absurd c_20 (by decide)) (fun c_20 => ?_)
  refine lv_goto (tgt := 53) hx hb dL_halves_23 (by decide) ?_
  refine lv_iinc (k := 0) (v := (nI 8)) (lv' := [(2, .int (nI 8)), (4, .int (((R 0) 3) - ((R 0) 7))), (3, .int (((R 0) 1) - ((R 0) 5))), (1, .int 2), (0, .ref (ad 0))]) hx hb dL_halves_53 hl rfl (nI_add 7 1) (by decide) rfl (fun ls hl => ?_)
  refine lv_goto (tgt := 8) hx hb dL_halves_56 (by decide) ?_
  refine lv_iload_n hx hb dL_halves_8 rfl (lv_at hl 0 rfl) ?_
  refine lv_bipush (v := 8) hx hb dL_halves_9 (by decide) ?_
  refine lv_icmp_ge (tgt := 59) hx hb dL_halves_11 (by decide) (fun c_11 => ?_) (fun c_11 => absurd c_11 (by decide))
  refine lv_iload_n hx hb dL_halves_59 rfl (lv_at hl 3 rfl) ?_
  refine lv_iconst (v := 2) hx hb dL_halves_60 (by decide) ?_
  refine lv_idiv hx hb dL_halves_61 (by decide) ?_
  refine cx_top (y := 1) (by decide) ?_
  refine lv_istore_n (lv' := [(1, .int 1), (2, .int (nI 8)), (4, .int (((R 0) 3) - ((R 0) 7))), (3, .int (((R 0) 1) - ((R 0) 5))), (0, .ref (ad 0))]) hx hb dL_halves_62 rfl hl (by decide) rfl (fun ls hl => ?_)
  refine lv_goto (tgt := 2) hx hb dL_halves_63 (by decide) ?_
  refine lv_iload_n hx hb dL_halves_2 rfl (lv_at hl 0 rfl) ?_
  refine lv_if_le (tgt := 66) hx hb dL_halves_3 (by decide) (fun c_3 => absurd c_3 (by decide)) (fun c_3 => ?_)
  refine lv_iconst (v := 0) hx hb dL_halves_6 (by decide) ?_
  refine lv_istore_n (lv' := [(2, .int 0), (1, .int 1), (4, .int (((R 0) 3) - ((R 0) 7))), (3, .int (((R 0) 1) - ((R 0) 5))), (0, .ref (ad 0))]) hx hb dL_halves_7 rfl hl (by decide) rfl (fun ls hl => ?_)
  refine lv_iload_n hx hb dL_halves_8 rfl (lv_at hl 0 rfl) ?_
  refine lv_bipush (v := 8) hx hb dL_halves_9 (by decide) ?_
  refine lv_icmp_ge (tgt := 59) hx hb dL_halves_11 (by decide) (fun c_11 => absurd c_11 (by decide)) (fun c_11 => ?_)
  refine lv_iload_n hx hb dL_halves_14 rfl (lv_at hl 0 rfl) ?_
  refine lv_iload_n hx hb dL_halves_15 rfl (lv_at hl 1 rfl) ?_
  refine lv_idiv hx hb dL_halves_16 (by decide) ?_
  refine cx_top (y := 0) (by decide) ?_
  refine lv_iconst (v := 1) hx hb dL_halves_17 (by decide) ?_
  refine lv_iand hx hb dL_halves_18 ?_
  refine cx_top (y := 0) (by decide) ?_
  refine lv_iconst (v := 1) hx hb dL_halves_19 (by decide) ?_
  refine lv_icmp_ne (tgt := 26) hx hb dL_halves_20 (by decide) (fun c_20 => ?_) (fun c_20 => absurd c_20 (by decide))
  refine lv_aload_n hx hb dL_halves_26 rfl (lv_at hl 4 rfl) ?_
  refine lv_iload_n hx hb dL_halves_27 rfl (lv_at hl 0 rfl) ?_
  refine cx_iald (k := 0) hx hb hK hP 0 1 hw_0 rfl (by decide) (by decide) dL_halves_28 ?_
  refine cx_top (y := ((((R 0) 0) + ((R 0) 4)) + (((R 0) 2) + ((R 0) 6)))) rfl ?_
  refine cx_top (y := ((((R 0) 0) + ((R 0) 4)) + (((R 0) 2) + ((R 0) 6)))) rfl ?_
  refine lv_istore_n (lv' := [(3, .int ((((R 0) 0) + ((R 0) 4)) + (((R 0) 2) + ((R 0) 6)))), (2, .int 0), (1, .int 1), (4, .int (((R 0) 3) - ((R 0) 7))), (0, .ref (ad 0))]) hx hb dL_halves_29 rfl hl (by decide) rfl (fun ls hl => ?_)
  refine lv_aload_n hx hb dL_halves_30 rfl (lv_at hl 4 rfl) ?_
  refine lv_iload_n hx hb dL_halves_31 rfl (lv_at hl 1 rfl) ?_
  refine lv_iload_n hx hb dL_halves_32 rfl (lv_at hl 2 rfl) ?_
  refine lv_iadd hx hb dL_halves_33 ?_
  refine cx_top (y := 1) (by decide) ?_
  refine cx_iald (k := 1) hx hb hK hP 0 1 hw_0 rfl (by decide) (by decide) dL_halves_34 ?_
  refine cx_top (y := ((((R 0) 1) + ((R 0) 5)) + (((R 0) 3) + ((R 0) 7)))) rfl ?_
  refine cx_top (y := ((((R 0) 1) + ((R 0) 5)) + (((R 0) 3) + ((R 0) 7)))) rfl ?_
  refine lv_istore (lv' := [(4, .int ((((R 0) 1) + ((R 0) 5)) + (((R 0) 3) + ((R 0) 7)))), (3, .int ((((R 0) 0) + ((R 0) 4)) + (((R 0) 2) + ((R 0) 6)))), (2, .int 0), (1, .int 1), (0, .ref (ad 0))]) hx hb dL_halves_35 hl (by decide) rfl (fun ls hl => ?_)
  refine lv_aload_n hx hb dL_halves_37 rfl (lv_at hl 4 rfl) ?_
  refine lv_iload_n hx hb dL_halves_38 rfl (lv_at hl 2 rfl) ?_
  refine lv_iload_n hx hb dL_halves_39 rfl (lv_at hl 1 rfl) ?_
  refine lv_iload hx hb dL_halves_40 (lv_at hl 0 rfl) ?_
  refine lv_iadd hx hb dL_halves_42 ?_
  refine cx_iast (k := 0) hx hb hK hP (hD _ _) hS 0 1 hw_0 rfl (by decide) (by decide) hw_R0 dL_halves_43 (fun H locs hP hS => ?_)
  refine lv_aload_n hx hb dL_halves_44 rfl (lv_at hl 4 rfl) ?_
  refine lv_iload_n hx hb dL_halves_45 rfl (lv_at hl 2 rfl) ?_
  refine lv_iload_n hx hb dL_halves_46 rfl (lv_at hl 3 rfl) ?_
  refine lv_iadd hx hb dL_halves_47 ?_
  refine cx_top (y := 1) (by decide) ?_
  refine lv_iload_n hx hb dL_halves_48 rfl (lv_at hl 1 rfl) ?_
  refine lv_iload hx hb dL_halves_49 (lv_at hl 0 rfl) ?_
  refine lv_isub hx hb dL_halves_51 ?_
  refine cx_iast (k := 1) hx hb hK hP (hD _ _) hS 0 1 hw_0 rfl (by decide) (by decide) hw_R0 dL_halves_52 (fun H locs hP hS => ?_)
  refine lv_iinc (k := 2) (v := (nI 1)) (lv' := [(2, .int (nI 1)), (4, .int ((((R 0) 1) + ((R 0) 5)) + (((R 0) 3) + ((R 0) 7)))), (3, .int ((((R 0) 0) + ((R 0) 4)) + (((R 0) 2) + ((R 0) 6)))), (1, .int 1), (0, .ref (ad 0))]) hx hb dL_halves_53 hl rfl (nI_add 0 1) (by decide) rfl (fun ls hl => ?_)
  refine lv_goto (tgt := 8) hx hb dL_halves_56 (by decide) ?_
  refine lv_iload_n hx hb dL_halves_8 rfl (lv_at hl 0 rfl) ?_
  refine lv_bipush (v := 8) hx hb dL_halves_9 (by decide) ?_
  refine lv_icmp_ge (tgt := 59) hx hb dL_halves_11 (by decide) (fun c_11 => absurd c_11 (by decide)) (fun c_11 => ?_)
  refine lv_iload_n hx hb dL_halves_14 rfl (lv_at hl 0 rfl) ?_
  refine lv_iload_n hx hb dL_halves_15 rfl (lv_at hl 3 rfl) ?_
  refine lv_idiv hx hb dL_halves_16 (by decide) ?_
  refine cx_top (y := 1) (by decide) ?_
  refine lv_iconst (v := 1) hx hb dL_halves_17 (by decide) ?_
  refine lv_iand hx hb dL_halves_18 ?_
  refine cx_top (y := 1) (by decide) ?_
  refine lv_iconst (v := 1) hx hb dL_halves_19 (by decide) ?_
  refine lv_icmp_ne (tgt := 26) hx hb dL_halves_20 (by decide) (fun c_20 => absurd c_20 (by decide)) (fun c_20 => ?_)
  refine lv_goto (tgt := 53) hx hb dL_halves_23 (by decide) ?_
  refine lv_iinc (k := 0) (v := (nI 2)) (lv' := [(2, .int (nI 2)), (4, .int ((((R 0) 1) + ((R 0) 5)) + (((R 0) 3) + ((R 0) 7)))), (3, .int ((((R 0) 0) + ((R 0) 4)) + (((R 0) 2) + ((R 0) 6)))), (1, .int 1), (0, .ref (ad 0))]) hx hb dL_halves_53 hl rfl (nI_add 1 1) (by decide) rfl (fun ls hl => ?_)
  refine lv_goto (tgt := 8) hx hb dL_halves_56 (by decide) ?_
  refine lv_iload_n hx hb dL_halves_8 rfl (lv_at hl 0 rfl) ?_
  refine lv_bipush (v := 8) hx hb dL_halves_9 (by decide) ?_
  refine lv_icmp_ge (tgt := 59) hx hb dL_halves_11 (by decide) (fun c_11 => absurd c_11 (by decide)) (fun c_11 => ?_)
  refine lv_iload_n hx hb dL_halves_14 rfl (lv_at hl 0 rfl) ?_
  refine lv_iload_n hx hb dL_halves_15 rfl (lv_at hl 3 rfl) ?_
  refine lv_idiv hx hb dL_halves_16 (by decide) ?_
  refine cx_top (y := 2) (by decide) ?_
  refine lv_iconst (v := 1) hx hb dL_halves_17 (by decide) ?_
  refine lv_iand hx hb dL_halves_18 ?_
  refine cx_top (y := 0) (by decide) ?_
  refine lv_iconst (v := 1) hx hb dL_halves_19 (by decide) ?_
  refine lv_icmp_ne (tgt := 26) hx hb dL_halves_20 (by decide) (fun c_20 => ?_) (fun c_20 => absurd c_20 (by decide))
  refine lv_aload_n hx hb dL_halves_26 rfl (lv_at hl 4 rfl) ?_
  refine lv_iload_n hx hb dL_halves_27 rfl (lv_at hl 0 rfl) ?_
  refine cx_iald (k := 2) hx hb hK hP 0 1 hw_0 rfl (by omega) (by decide) dL_halves_28 ?_
  refine cx_top (y := ((((R 0) 0) + ((R 0) 4)) - (((R 0) 2) + ((R 0) 6)))) rfl ?_
  refine cx_top (y := ((((R 0) 0) + ((R 0) 4)) - (((R 0) 2) + ((R 0) 6)))) rfl ?_
  refine lv_istore_n (lv' := [(3, .int ((((R 0) 0) + ((R 0) 4)) - (((R 0) 2) + ((R 0) 6)))), (2, .int (nI 2)), (4, .int ((((R 0) 1) + ((R 0) 5)) + (((R 0) 3) + ((R 0) 7)))), (1, .int 1), (0, .ref (ad 0))]) hx hb dL_halves_29 rfl hl (by decide) rfl (fun ls hl => ?_)
  refine lv_aload_n hx hb dL_halves_30 rfl (lv_at hl 4 rfl) ?_
  refine lv_iload_n hx hb dL_halves_31 rfl (lv_at hl 1 rfl) ?_
  refine lv_iload_n hx hb dL_halves_32 rfl (lv_at hl 3 rfl) ?_
  refine lv_iadd hx hb dL_halves_33 ?_
  refine cx_top (y := 3) (by decide) ?_
  refine cx_iald (k := 3) hx hb hK hP 0 1 hw_0 rfl (by decide) (by decide) dL_halves_34 ?_
  refine cx_top (y := ((((R 0) 1) + ((R 0) 5)) - (((R 0) 3) + ((R 0) 7)))) rfl ?_
  refine cx_top (y := ((((R 0) 1) + ((R 0) 5)) - (((R 0) 3) + ((R 0) 7)))) rfl ?_
  refine lv_istore (lv' := [(4, .int ((((R 0) 1) + ((R 0) 5)) - (((R 0) 3) + ((R 0) 7)))), (3, .int ((((R 0) 0) + ((R 0) 4)) - (((R 0) 2) + ((R 0) 6)))), (2, .int (nI 2)), (1, .int 1), (0, .ref (ad 0))]) hx hb dL_halves_35 hl (by decide) rfl (fun ls hl => ?_)
  refine lv_aload_n hx hb dL_halves_37 rfl (lv_at hl 4 rfl) ?_
  refine lv_iload_n hx hb dL_halves_38 rfl (lv_at hl 2 rfl) ?_
  refine lv_iload_n hx hb dL_halves_39 rfl (lv_at hl 1 rfl) ?_
  refine lv_iload hx hb dL_halves_40 (lv_at hl 0 rfl) ?_
  refine lv_iadd hx hb dL_halves_42 ?_
  refine cx_iast (k := 2) hx hb hK hP (hD _ _) hS 0 1 hw_0 rfl (by omega) (by decide) hw_R0 dL_halves_43 (fun H locs hP hS => ?_)
  refine lv_aload_n hx hb dL_halves_44 rfl (lv_at hl 4 rfl) ?_
  refine lv_iload_n hx hb dL_halves_45 rfl (lv_at hl 2 rfl) ?_
  refine lv_iload_n hx hb dL_halves_46 rfl (lv_at hl 3 rfl) ?_
  refine lv_iadd hx hb dL_halves_47 ?_
  refine cx_top (y := 3) (by decide) ?_
  refine lv_iload_n hx hb dL_halves_48 rfl (lv_at hl 1 rfl) ?_
  refine lv_iload hx hb dL_halves_49 (lv_at hl 0 rfl) ?_
  refine lv_isub hx hb dL_halves_51 ?_
  refine cx_iast (k := 3) hx hb hK hP (hD _ _) hS 0 1 hw_0 rfl (by decide) (by decide) hw_R0 dL_halves_52 (fun H locs hP hS => ?_)
  refine lv_iinc (k := 2) (v := (nI 3)) (lv' := [(2, .int (nI 3)), (4, .int ((((R 0) 1) + ((R 0) 5)) - (((R 0) 3) + ((R 0) 7)))), (3, .int ((((R 0) 0) + ((R 0) 4)) - (((R 0) 2) + ((R 0) 6)))), (1, .int 1), (0, .ref (ad 0))]) hx hb dL_halves_53 hl rfl (nI_add 2 1) (by decide) rfl (fun ls hl => ?_)
  refine lv_goto (tgt := 8) hx hb dL_halves_56 (by decide) ?_
  refine lv_iload_n hx hb dL_halves_8 rfl (lv_at hl 0 rfl) ?_
  refine lv_bipush (v := 8) hx hb dL_halves_9 (by decide) ?_
  refine lv_icmp_ge (tgt := 59) hx hb dL_halves_11 (by decide) (fun c_11 => absurd c_11 (by decide)) (fun c_11 => ?_)
  refine lv_iload_n hx hb dL_halves_14 rfl (lv_at hl 0 rfl) ?_
  refine lv_iload_n hx hb dL_halves_15 rfl (lv_at hl 3 rfl) ?_
  refine lv_idiv hx hb dL_halves_16 (by decide) ?_
  refine cx_top (y := 3) (by decide) ?_
  refine lv_iconst (v := 1) hx hb dL_halves_17 (by decide) ?_
  refine lv_iand hx hb dL_halves_18 ?_
  refine cx_top (y := 1) (by decide) ?_
  refine lv_iconst (v := 1) hx hb dL_halves_19 (by decide) ?_
  refine lv_icmp_ne (tgt := 26) hx hb dL_halves_20 (by decide) (fun c_20 => absurd c_20 (by decide)) (fun c_20 => ?_)
  refine lv_goto (tgt := 53) hx hb dL_halves_23 (by decide) ?_
  refine lv_iinc (k := 0) (v := (nI 4)) (lv' := [(2, .int (nI 4)), (4, .int ((((R 0) 1) + ((R 0) 5)) - (((R 0) 3) + ((R 0) 7)))), (3, .int ((((R 0) 0) + ((R 0) 4)) - (((R 0) 2) + ((R 0) 6)))), (1, .int 1), (0, .ref (ad 0))]) hx hb dL_halves_53 hl rfl (nI_add 3 1) (by decide) rfl (fun ls hl => ?_)
  refine lv_goto (tgt := 8) hx hb dL_halves_56 (by decide) ?_
  refine lv_iload_n hx hb dL_halves_8 rfl (lv_at hl 0 rfl) ?_
  refine lv_bipush (v := 8) hx hb dL_halves_9 (by decide) ?_
  refine lv_icmp_ge (tgt := 59) hx hb dL_halves_11 (by decide) (fun c_11 => absurd c_11 (by decide)) (fun c_11 => ?_)
  refine lv_iload_n hx hb dL_halves_14 rfl (lv_at hl 0 rfl) ?_
  refine lv_iload_n hx hb dL_halves_15 rfl (lv_at hl 3 rfl) ?_
  refine lv_idiv hx hb dL_halves_16 (by decide) ?_
  refine cx_top (y := 4) (by decide) ?_
  refine lv_iconst (v := 1) hx hb dL_halves_17 (by decide) ?_
  refine lv_iand hx hb dL_halves_18 ?_
  refine cx_top (y := 0) (by decide) ?_
  refine lv_iconst (v := 1) hx hb dL_halves_19 (by decide) ?_
  refine lv_icmp_ne (tgt := 26) hx hb dL_halves_20 (by decide) (fun c_20 => ?_) (fun c_20 => absurd c_20 (by decide))
  refine lv_aload_n hx hb dL_halves_26 rfl (lv_at hl 4 rfl) ?_
  refine lv_iload_n hx hb dL_halves_27 rfl (lv_at hl 0 rfl) ?_
  refine cx_iald (k := 4) hx hb hK hP 0 1 hw_0 rfl (by omega) (by decide) dL_halves_28 ?_
  refine cx_top (y := ((((R 0) 0) - ((R 0) 4)) + (((R 0) 2) - ((R 0) 6)))) rfl ?_
  refine cx_top (y := ((((R 0) 0) - ((R 0) 4)) + (((R 0) 2) - ((R 0) 6)))) rfl ?_
  refine lv_istore_n (lv' := [(3, .int ((((R 0) 0) - ((R 0) 4)) + (((R 0) 2) - ((R 0) 6)))), (2, .int (nI 4)), (4, .int ((((R 0) 1) + ((R 0) 5)) - (((R 0) 3) + ((R 0) 7)))), (1, .int 1), (0, .ref (ad 0))]) hx hb dL_halves_29 rfl hl (by decide) rfl (fun ls hl => ?_)
  refine lv_aload_n hx hb dL_halves_30 rfl (lv_at hl 4 rfl) ?_
  refine lv_iload_n hx hb dL_halves_31 rfl (lv_at hl 1 rfl) ?_
  refine lv_iload_n hx hb dL_halves_32 rfl (lv_at hl 3 rfl) ?_
  refine lv_iadd hx hb dL_halves_33 ?_
  refine cx_top (y := 5) (by decide) ?_
  refine cx_iald (k := 5) hx hb hK hP 0 1 hw_0 rfl (by decide) (by decide) dL_halves_34 ?_
  refine cx_top (y := ((((R 0) 1) - ((R 0) 5)) + (((R 0) 3) - ((R 0) 7)))) rfl ?_
  refine cx_top (y := ((((R 0) 1) - ((R 0) 5)) + (((R 0) 3) - ((R 0) 7)))) rfl ?_
  refine lv_istore (lv' := [(4, .int ((((R 0) 1) - ((R 0) 5)) + (((R 0) 3) - ((R 0) 7)))), (3, .int ((((R 0) 0) - ((R 0) 4)) + (((R 0) 2) - ((R 0) 6)))), (2, .int (nI 4)), (1, .int 1), (0, .ref (ad 0))]) hx hb dL_halves_35 hl (by decide) rfl (fun ls hl => ?_)
  refine lv_aload_n hx hb dL_halves_37 rfl (lv_at hl 4 rfl) ?_
  refine lv_iload_n hx hb dL_halves_38 rfl (lv_at hl 2 rfl) ?_
  refine lv_iload_n hx hb dL_halves_39 rfl (lv_at hl 1 rfl) ?_
  refine lv_iload hx hb dL_halves_40 (lv_at hl 0 rfl) ?_
  refine lv_iadd hx hb dL_halves_42 ?_
  refine cx_iast (k := 4) hx hb hK hP (hD _ _) hS 0 1 hw_0 rfl (by omega) (by decide) hw_R0 dL_halves_43 (fun H locs hP hS => ?_)
  refine lv_aload_n hx hb dL_halves_44 rfl (lv_at hl 4 rfl) ?_
  refine lv_iload_n hx hb dL_halves_45 rfl (lv_at hl 2 rfl) ?_
  refine lv_iload_n hx hb dL_halves_46 rfl (lv_at hl 3 rfl) ?_
  refine lv_iadd hx hb dL_halves_47 ?_
  refine cx_top (y := 5) (by decide) ?_
  refine lv_iload_n hx hb dL_halves_48 rfl (lv_at hl 1 rfl) ?_
  refine lv_iload hx hb dL_halves_49 (lv_at hl 0 rfl) ?_
  refine lv_isub hx hb dL_halves_51 ?_
  refine cx_iast (k := 5) hx hb hK hP (hD _ _) hS 0 1 hw_0 rfl (by decide) (by decide) hw_R0 dL_halves_52 (fun H locs hP hS => ?_)
  refine lv_iinc (k := 2) (v := (nI 5)) (lv' := [(2, .int (nI 5)), (4, .int ((((R 0) 1) - ((R 0) 5)) + (((R 0) 3) - ((R 0) 7)))), (3, .int ((((R 0) 0) - ((R 0) 4)) + (((R 0) 2) - ((R 0) 6)))), (1, .int 1), (0, .ref (ad 0))]) hx hb dL_halves_53 hl rfl (nI_add 4 1) (by decide) rfl (fun ls hl => ?_)
  refine lv_goto (tgt := 8) hx hb dL_halves_56 (by decide) ?_
  refine lv_iload_n hx hb dL_halves_8 rfl (lv_at hl 0 rfl) ?_
  refine lv_bipush (v := 8) hx hb dL_halves_9 (by decide) ?_
  refine lv_icmp_ge (tgt := 59) hx hb dL_halves_11 (by decide) (fun c_11 => absurd c_11 (by decide)) (fun c_11 => ?_)
  refine lv_iload_n hx hb dL_halves_14 rfl (lv_at hl 0 rfl) ?_
  refine lv_iload_n hx hb dL_halves_15 rfl (lv_at hl 3 rfl) ?_
  refine lv_idiv hx hb dL_halves_16 (by decide) ?_
  refine cx_top (y := 5) (by decide) ?_
  refine lv_iconst (v := 1) hx hb dL_halves_17 (by decide) ?_
  refine lv_iand hx hb dL_halves_18 ?_
  refine cx_top (y := 1) (by decide) ?_
  refine lv_iconst (v := 1) hx hb dL_halves_19 (by decide) ?_
  refine lv_icmp_ne (tgt := 26) hx hb dL_halves_20 (by decide) (fun c_20 => absurd c_20 (by decide)) (fun c_20 => ?_)
  refine lv_goto (tgt := 53) hx hb dL_halves_23 (by decide) ?_
  refine lv_iinc (k := 0) (v := (nI 6)) (lv' := [(2, .int (nI 6)), (4, .int ((((R 0) 1) - ((R 0) 5)) + (((R 0) 3) - ((R 0) 7)))), (3, .int ((((R 0) 0) - ((R 0) 4)) + (((R 0) 2) - ((R 0) 6)))), (1, .int 1), (0, .ref (ad 0))]) hx hb dL_halves_53 hl rfl (nI_add 5 1) (by decide) rfl (fun ls hl => ?_)
  refine lv_goto (tgt := 8) hx hb dL_halves_56 (by decide) ?_
  refine lv_iload_n hx hb dL_halves_8 rfl (lv_at hl 0 rfl) ?_
  refine lv_bipush (v := 8) hx hb dL_halves_9 (by decide) ?_
  refine lv_icmp_ge (tgt := 59) hx hb dL_halves_11 (by decide) (fun c_11 => absurd c_11 (by decide)) (fun c_11 => ?_)
  refine lv_iload_n hx hb dL_halves_14 rfl (lv_at hl 0 rfl) ?_
  refine lv_iload_n hx hb dL_halves_15 rfl (lv_at hl 3 rfl) ?_
  refine lv_idiv hx hb dL_halves_16 (by decide) ?_
  refine cx_top (y := 6) (by decide) ?_
  refine lv_iconst (v := 1) hx hb dL_halves_17 (by decide) ?_
  refine lv_iand hx hb dL_halves_18 ?_
  refine cx_top (y := 0) (by decide) ?_
  refine lv_iconst (v := 1) hx hb dL_halves_19 (by decide) ?_
  refine lv_icmp_ne (tgt := 26) hx hb dL_halves_20 (by decide) (fun c_20 => ?_) (fun c_20 => absurd c_20 (by decide))
  refine lv_aload_n hx hb dL_halves_26 rfl (lv_at hl 4 rfl) ?_
  refine lv_iload_n hx hb dL_halves_27 rfl (lv_at hl 0 rfl) ?_
  refine cx_iald (k := 6) hx hb hK hP 0 1 hw_0 rfl (by omega) (by decide) dL_halves_28 ?_
  refine cx_top (y := ((((R 0) 0) - ((R 0) 4)) - (((R 0) 2) - ((R 0) 6)))) rfl ?_
  refine cx_top (y := ((((R 0) 0) - ((R 0) 4)) - (((R 0) 2) - ((R 0) 6)))) rfl ?_
  refine lv_istore_n (lv' := [(3, .int ((((R 0) 0) - ((R 0) 4)) - (((R 0) 2) - ((R 0) 6)))), (2, .int (nI 6)), (4, .int ((((R 0) 1) - ((R 0) 5)) + (((R 0) 3) - ((R 0) 7)))), (1, .int 1), (0, .ref (ad 0))]) hx hb dL_halves_29 rfl hl (by decide) rfl (fun ls hl => ?_)
  refine lv_aload_n hx hb dL_halves_30 rfl (lv_at hl 4 rfl) ?_
  refine lv_iload_n hx hb dL_halves_31 rfl (lv_at hl 1 rfl) ?_
  refine lv_iload_n hx hb dL_halves_32 rfl (lv_at hl 3 rfl) ?_
  refine lv_iadd hx hb dL_halves_33 ?_
  refine cx_top (y := 7) (by decide) ?_
  refine cx_iald (k := 7) hx hb hK hP 0 1 hw_0 rfl (by decide) (by decide) dL_halves_34 ?_
  refine cx_top (y := ((((R 0) 1) - ((R 0) 5)) - (((R 0) 3) - ((R 0) 7)))) rfl ?_
  refine cx_top (y := ((((R 0) 1) - ((R 0) 5)) - (((R 0) 3) - ((R 0) 7)))) rfl ?_
  refine lv_istore (lv' := [(4, .int ((((R 0) 1) - ((R 0) 5)) - (((R 0) 3) - ((R 0) 7)))), (3, .int ((((R 0) 0) - ((R 0) 4)) - (((R 0) 2) - ((R 0) 6)))), (2, .int (nI 6)), (1, .int 1), (0, .ref (ad 0))]) hx hb dL_halves_35 hl (by decide) rfl (fun ls hl => ?_)
  refine lv_aload_n hx hb dL_halves_37 rfl (lv_at hl 4 rfl) ?_
  refine lv_iload_n hx hb dL_halves_38 rfl (lv_at hl 2 rfl) ?_
  refine lv_iload_n hx hb dL_halves_39 rfl (lv_at hl 1 rfl) ?_
  refine lv_iload hx hb dL_halves_40 (lv_at hl 0 rfl) ?_
  refine lv_iadd hx hb dL_halves_42 ?_
  refine cx_iast (k := 6) hx hb hK hP (hD _ _) hS 0 1 hw_0 rfl (by omega) (by decide) hw_R0 dL_halves_43 (fun H locs hP hS => ?_)
  refine lv_aload_n hx hb dL_halves_44 rfl (lv_at hl 4 rfl) ?_
  refine lv_iload_n hx hb dL_halves_45 rfl (lv_at hl 2 rfl) ?_
  refine lv_iload_n hx hb dL_halves_46 rfl (lv_at hl 3 rfl) ?_
  refine lv_iadd hx hb dL_halves_47 ?_
  refine cx_top (y := 7) (by decide) ?_
  refine lv_iload_n hx hb dL_halves_48 rfl (lv_at hl 1 rfl) ?_
  refine lv_iload hx hb dL_halves_49 (lv_at hl 0 rfl) ?_
  refine lv_isub hx hb dL_halves_51 ?_
  refine cx_iast (k := 7) hx hb hK hP (hD _ _) hS 0 1 hw_0 rfl (by decide) (by decide) hw_R0 dL_halves_52 (fun H locs hP hS => ?_)
  refine lv_iinc (k := 2) (v := (nI 7)) (lv' := [(2, .int (nI 7)), (4, .int ((((R 0) 1) - ((R 0) 5)) - (((R 0) 3) - ((R 0) 7)))), (3, .int ((((R 0) 0) - ((R 0) 4)) - (((R 0) 2) - ((R 0) 6)))), (1, .int 1), (0, .ref (ad 0))]) hx hb dL_halves_53 hl rfl (nI_add 6 1) (by decide) rfl (fun ls hl => ?_)
  refine lv_goto (tgt := 8) hx hb dL_halves_56 (by decide) ?_
  refine lv_iload_n hx hb dL_halves_8 rfl (lv_at hl 0 rfl) ?_
  refine lv_bipush (v := 8) hx hb dL_halves_9 (by decide) ?_
  refine lv_icmp_ge (tgt := 59) hx hb dL_halves_11 (by decide) (fun c_11 => absurd c_11 (by decide)) (fun c_11 => ?_)
  refine lv_iload_n hx hb dL_halves_14 rfl (lv_at hl 0 rfl) ?_
  refine lv_iload_n hx hb dL_halves_15 rfl (lv_at hl 3 rfl) ?_
  refine lv_idiv hx hb dL_halves_16 (by decide) ?_
  refine cx_top (y := 7) (by decide) ?_
  refine lv_iconst (v := 1) hx hb dL_halves_17 (by decide) ?_
  refine lv_iand hx hb dL_halves_18 ?_
  refine cx_top (y := 1) (by decide) ?_
  refine lv_iconst (v := 1) hx hb dL_halves_19 (by decide) ?_
  refine lv_icmp_ne (tgt := 26) hx hb dL_halves_20 (by decide) (fun c_20 => absurd c_20 (by decide)) (fun c_20 => ?_)
  refine lv_goto (tgt := 53) hx hb dL_halves_23 (by decide) ?_
  refine lv_iinc (k := 0) (v := (nI 8)) (lv' := [(2, .int (nI 8)), (4, .int ((((R 0) 1) - ((R 0) 5)) - (((R 0) 3) - ((R 0) 7)))), (3, .int ((((R 0) 0) - ((R 0) 4)) - (((R 0) 2) - ((R 0) 6)))), (1, .int 1), (0, .ref (ad 0))]) hx hb dL_halves_53 hl rfl (nI_add 7 1) (by decide) rfl (fun ls hl => ?_)
  refine lv_goto (tgt := 8) hx hb dL_halves_56 (by decide) ?_
  refine lv_iload_n hx hb dL_halves_8 rfl (lv_at hl 0 rfl) ?_
  refine lv_bipush (v := 8) hx hb dL_halves_9 (by decide) ?_
  refine lv_icmp_ge (tgt := 59) hx hb dL_halves_11 (by decide) (fun c_11 => ?_) (fun c_11 => absurd c_11 (by decide))
  refine lv_iload_n hx hb dL_halves_59 rfl (lv_at hl 3 rfl) ?_
  refine lv_iconst (v := 2) hx hb dL_halves_60 (by decide) ?_
  refine lv_idiv hx hb dL_halves_61 (by decide) ?_
  refine cx_top (y := 0) (by decide) ?_
  refine lv_istore_n (lv' := [(1, .int 0), (2, .int (nI 8)), (4, .int ((((R 0) 1) - ((R 0) 5)) - (((R 0) 3) - ((R 0) 7)))), (3, .int ((((R 0) 0) - ((R 0) 4)) - (((R 0) 2) - ((R 0) 6)))), (0, .ref (ad 0))]) hx hb dL_halves_62 rfl hl (by decide) rfl (fun ls hl => ?_)
  refine lv_goto (tgt := 2) hx hb dL_halves_63 (by decide) ?_
  refine lv_iload_n hx hb dL_halves_2 rfl (lv_at hl 0 rfl) ?_
  refine lv_if_le (tgt := 66) hx hb dL_halves_3 (by decide) (fun c_3 => ?_) (fun c_3 => absurd c_3 (by decide))
  exact W.vret hx hb hr (fun t ht hW => ⟨⟨(upd (upd (upd (upd (upd (upd (upd (upd (upd (upd (upd (upd (upd (upd (upd (upd (upd (upd (upd (upd (upd (upd (upd (upd (R 0) 0 (((R 0) 0) + ((R 0) 4))) 4 (((R 0) 0) - ((R 0) 4))) 1 (((R 0) 1) + ((R 0) 5))) 5 (((R 0) 1) - ((R 0) 5))) 2 (((R 0) 2) + ((R 0) 6))) 6 (((R 0) 2) - ((R 0) 6))) 3 (((R 0) 3) + ((R 0) 7))) 7 (((R 0) 3) - ((R 0) 7))) 0 ((((R 0) 0) + ((R 0) 4)) + (((R 0) 2) + ((R 0) 6)))) 2 ((((R 0) 0) + ((R 0) 4)) - (((R 0) 2) + ((R 0) 6)))) 1 ((((R 0) 1) + ((R 0) 5)) + (((R 0) 3) + ((R 0) 7)))) 3 ((((R 0) 1) + ((R 0) 5)) - (((R 0) 3) + ((R 0) 7)))) 4 ((((R 0) 0) - ((R 0) 4)) + (((R 0) 2) - ((R 0) 6)))) 6 ((((R 0) 0) - ((R 0) 4)) - (((R 0) 2) - ((R 0) 6)))) 5 ((((R 0) 1) - ((R 0) 5)) + (((R 0) 3) - ((R 0) 7)))) 7 ((((R 0) 1) - ((R 0) 5)) - (((R 0) 3) - ((R 0) 7)))) 0 (((((R 0) 0) + ((R 0) 4)) + (((R 0) 2) + ((R 0) 6))) + ((((R 0) 1) + ((R 0) 5)) + (((R 0) 3) + ((R 0) 7))))) 1 (((((R 0) 0) + ((R 0) 4)) + (((R 0) 2) + ((R 0) 6))) - ((((R 0) 1) + ((R 0) 5)) + (((R 0) 3) + ((R 0) 7))))) 2 (((((R 0) 0) + ((R 0) 4)) - (((R 0) 2) + ((R 0) 6))) + ((((R 0) 1) + ((R 0) 5)) - (((R 0) 3) + ((R 0) 7))))) 3 (((((R 0) 0) + ((R 0) 4)) - (((R 0) 2) + ((R 0) 6))) - ((((R 0) 1) + ((R 0) 5)) - (((R 0) 3) + ((R 0) 7))))) 4 (((((R 0) 0) - ((R 0) 4)) + (((R 0) 2) - ((R 0) 6))) + ((((R 0) 1) - ((R 0) 5)) + (((R 0) 3) - ((R 0) 7))))) 5 (((((R 0) 0) - ((R 0) 4)) + (((R 0) 2) - ((R 0) 6))) - ((((R 0) 1) - ((R 0) 5)) + (((R 0) 3) - ((R 0) 7))))) 6 (((((R 0) 0) - ((R 0) 4)) - (((R 0) 2) - ((R 0) 6))) + ((((R 0) 1) - ((R 0) 5)) - (((R 0) 3) - ((R 0) 7))))) 7 (((((R 0) 0) - ((R 0) 4)) - (((R 0) 2) - ((R 0) 6))) - ((((R 0) 1) - ((R 0) 5)) - (((R 0) 3) - ((R 0) 7))))), rfl, all8 (had_0 _) (had_1 _) (had_2 _) (had_3 _) (had_4 _) (had_5 _) (had_6 _) (had_7 _), by show va_P _ _ _ _; rw [ht]; exact updH hP⟩, hS.F ht⟩) hS.2.2 dL_halves_66
set_option maxHeartbeats 4000000 in
set_option maxRecDepth 100000 in
theorem c_L_draw (l : Launch) (D : va_G) (T : Nat → ClassId) (ad : Nat → Nat) (I : Nat → Int32) (R : Nat → Nat → Int32) (sz : Nat) (lm : Nat) (hAD : AD 39 ad) (hb1 : R 21 = lbI lm) : Met l yL_draw wsL_draw ({ frames := 1, cells := 0, slots := 0, locals := 24 }) (va_Pc [.ref (ad 34), .ref (ad 35), .ref (ad 37)] (PB D T ad I R sz)) (va_Qv (fun (u9 : Unit) => True) (fun (u9 : Unit) t => va_P D vwCl (pw T ad I (updR R 23 (fun n => trS (dr (R 20) lm) n 8))) t.heap) (cA 39 ad sz)) 0 0 (cA 39 ad sz) := by
  refine Met.ofW (cc := cL_draw) (maxL := 4) (ret := none) (by decide) rfl ?_
  intro p e s m args_ below meth c s₁ B hml hv
  obtain ⟨rfl, hsz, hP, hK, hN, hXU, hXZ, hNc⟩ := hv
  have hx := B.exec
  have hb := B.bytes
  have hr := B.returns
  have hts := atoms_spec (ws := wsL_draw) B.pre
  have hown : s.vm.findClass RL = some m.cls := findClass_of_methodNamed B.named
  have hlocks := B.notSynchronized
  subst hsz
  have hS : va_S (cA 39 ad s.heap.size) s.heap s.heap [] := va_S.rf
  have hD : ∀ I R, va_D (cA 39 ad s.heap.size) (pw T ad I R) := fun I R => pw_D hAD (fun k hk => cA_in hk)
  have hl := lv_entry ([.ref (ad 34), .ref (ad 35), .ref (ad 37)]) (n := 4) (Nat.le_of_ble_eq_true rfl)
  rw [lg_entry_eq]
  generalize (lg_sl ([.ref (ad 34), .ref (ad 35), .ref (ad 37)]) ++ List.replicate (4 - (lg_sl ([.ref (ad 34), .ref (ad 35), .ref (ad 37)])).length) Slot.unset).toArray = ls at hl ⊢
  have hl : lv_has ls 4 [(0, .ref (ad 34)), (1, .ref (ad 35)), (2, .ref (ad 37))] := hl
  refine lv_iconst (v := 0) hx hb dL_draw_0 (by decide) ?_
  refine lv_istore_n (lv' := [(3, .int 0), (0, .ref (ad 34)), (1, .ref (ad 35)), (2, .ref (ad 37))]) hx hb dL_draw_1 rfl hl (by decide) rfl (fun ls hl => ?_)
  suffices ih_2 : ∀ (fu : Nat) (i : Nat) (f : Nat → Int32) (H : Heap) (locs : List Loc) (ls : Array Slot), 8 - i < fu → (i ≤ 8) → (∀ k, k < i → f k = dr (R 20) lm k) → va_P D vwCl (pw T ad I (updR R 23 f)) H →  va_S (cA 39 ad s.heap.size) s.heap H locs → lv_has ls 4 [(0, .ref (ad 34)), (1, .ref (ad 35)), (2, .ref (ad 37)), (3, .int (nI i))] → W p l e (headSpec wsL_draw ({ frames := 1, cells := 0, slots := 0, locals := 24 })).room s m ([.ref (ad 34), .ref (ad 35), .ref (ad 37)] : List Value).toArray below meth c H locs 0 0 (MQ below (va_Qv (fun (u9 : Unit) => True) (fun (u9 : Unit) t => va_P D vwCl (pw T ad I (updR R 23 (fun n => trS (dr (R 20) lm) n 8))) t.heap) (cA 39 ad s.heap.size)) ([.ref (ad 34), .ref (ad 35), .ref (ad 37)] : List Value).toArray s 0 0 (cA 39 ad s.heap.size)) (F0 m 2 ls []) from
    ih_2 _ 0 (R 23) _ _ _ (Nat.lt_succ_self _) (by omega) (fun k h => absurd h (Nat.not_lt_zero k)) (selfP hP) hS (lv_sub hl [1, 2, 3, 0] rfl)
  intro fu
  induction fu with
  | zero => intro i f H locs ls hfu; exact absurd hfu (Nat.not_lt_zero _)
  | succ fu ih_2 =>
    intro i f H locs ls hfu hi hf hP hS hl
    refine lv_iload_n hx hb dL_draw_2 rfl (lv_at hl 3 rfl) ?_
    refine lv_bipush (v := 8) hx hb dL_draw_3 (by decide) ?_
    refine lv_icmp_ge (tgt := 31) hx hb dL_draw_5 (by decide) (fun c_5 => ?_) (fun c_5 => ?_)
    · have c_5 : 8 ≤ i := (nI_leI (a := 8) (b := i) (by omega) (by omega)).mp c_5
      obtain rfl : i = 8 := by omega
      refine lv_aload_n hx hb dL_draw_31 rfl (lv_at hl 2 rfl) ?_
      refine cx_wv (va_runS (As := [.ref (ad 37)]) (rest := []) ⟨hx, hb, hml, hown, hts⟩ (c_L_halves l D T (fun _ => ad 37) (fun _ => 0) (fun _ => f) _ AD_1) (va_cwS 1 hts gL_draw_L_halves rfl rfl rfl (by decide +kernel) ⟨Nat.le_of_ble_eq_true rfl, Nat.le_of_ble_eq_true rfl⟩) ⟨YB.blind, YB.pre (hw_of (I := fun _ => 0) hP pw_37) hK rfl⟩ rfl rfl hl.1 rfl (lv_room (Nat.le_of_ble_eq_true rfl)) dL_draw_32 ⟨Nat.le_of_ble_eq_true rfl, Nat.le_of_ble_eq_true rfl⟩) hS (cA_sub (fun _ _ => cA_in (k := 37) (by decide)) (fun q hq => cA_new (Nat.le_trans hS.1 hq))) (cA_sub (fun _ _ => cA_in (k := 37) (by decide)) (fun q hq => cA_new (Nat.le_trans hS.1 hq))) (fun u_32 H locs hu_32 hP1 hkk hS => ?_)
      have hP := hw_join (g := (fun n => trS (dr (R 20) lm) n 8)) hP (hD _ _) pw_37 hkk hP1 (fun j hj => (hu_32 j hj).trans (trS_congr hf)) pw_R23
      have hP := updP hP
      exact W.vret hx hb hr (fun t ht hW => ⟨⟨(), rfl, trivial, by show va_P _ _ _ _; rw [ht]; exact hP⟩, hS.F ht⟩) hS.2.2 dL_draw_35
    · have c_5 : ¬ (8 ≤ i) := fun h => c_5 ((nI_leI (a := 8) (b := i) (by omega) (by omega)).mpr h)
      refine lv_aload_n hx hb dL_draw_8 rfl (lv_at hl 2 rfl) ?_
      refine lv_iload_n hx hb dL_draw_9 rfl (lv_at hl 3 rfl) ?_
      refine lv_aload_n hx hb dL_draw_10 rfl (lv_at hl 1 rfl) ?_
      refine lv_iload_n hx hb dL_draw_11 rfl (lv_at hl 3 rfl) ?_
      refine cx_iald (k := i) hx hb hK hP 35 1 pw_35 rfl (by omega) (by decide) dL_draw_12 ?_
      refine cx_top (y := ((R 21) i)) rfl ?_
      refine lv_iconst (v := 1) hx hb dL_draw_13 (by decide) ?_
      refine lv_icmp_ne (tgt := 21) hx hb dL_draw_14 (by decide) (fun c_14 => ?_) (fun c_14 => ?_)
      · refine lv_aload_n hx hb dL_draw_21 rfl (lv_at hl 0 rfl) ?_
        refine lv_iload_n hx hb dL_draw_22 rfl (lv_at hl 3 rfl) ?_
        refine cx_iald (k := i) hx hb hK hP 34 1 pw_34 rfl (by omega) (by decide) dL_draw_23 ?_
        refine cx_top (y := ((R 20) i)) rfl ?_
        refine cx_iast (k := i) hx hb hK hP (hD _ _) hS 37 1 pw_37 rfl (by omega) (by decide) pw_R23 dL_draw_24 (fun H locs hP hS => ?_)
        refine lv_iinc (k := 3) (v := (nI (i + 1))) (lv' := [(3, .int (nI (i + 1))), (0, .ref (ad 34)), (1, .ref (ad 35)), (2, .ref (ad 37))]) hx hb dL_draw_25 hl rfl (nI_add i 1) (by decide) rfl (fun ls hl => ?_)
        refine lv_goto (tgt := 2) hx hb dL_draw_28 (by decide) ?_
        exact ih_2 (i + 1) (upd f i ((R 20) i)) _ _ _ (by omega) (by omega) (up_lt hf (by first | exact dq_t hb1 c_14 | exact dq_f hb1 c_14)) (updP hP) hS (lv_sub hl [1, 2, 3, 0] rfl)
      · refine lv_iconst (v := 0) hx hb dL_draw_17 (by decide) ?_
        refine lv_goto (tgt := 24) hx hb dL_draw_18 (by decide) ?_
        refine cx_iast (k := i) hx hb hK hP (hD _ _) hS 37 1 pw_37 rfl (by omega) (by decide) pw_R23 dL_draw_24 (fun H locs hP hS => ?_)
        refine lv_iinc (k := 3) (v := (nI (i + 1))) (lv' := [(3, .int (nI (i + 1))), (0, .ref (ad 34)), (1, .ref (ad 35)), (2, .ref (ad 37))]) hx hb dL_draw_25 hl rfl (nI_add i 1) (by decide) rfl (fun ls hl => ?_)
        refine lv_goto (tgt := 2) hx hb dL_draw_28 (by decide) ?_
        exact ih_2 (i + 1) (upd f i 0) _ _ _ (by omega) (by omega) (up_lt hf (by first | exact dq_t hb1 c_14 | exact dq_f hb1 c_14)) (updP hP) hS (lv_sub hl [1, 2, 3, 0] rfl)

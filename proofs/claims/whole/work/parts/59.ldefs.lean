/-! the law's loop: what holds at its head, and the steps that its cases share -/
def LwA (s : State) : Nat → Prop := fun q => s.heap.size ≤ q
abbrev lwLv (b : Addr) (ad ad2 : Nat → Nat) (ao i : Nat) : List (Nat × Value) := [(0, .ref b), (1, .ref (ad 0)), (2, .ref (ad2 0)), (3, .ref ao), (4, .int (nI i))]
def LwF (p : Program) (l : Launch) (s : State) (m : MethodId) (c : Code) (args : Array Value) (D : va_G) (T : Nat → ClassId) (ad ad2 : Nat → Nat) (ao : Nat) (b : Addr) (L : Nat) (xs : Nat → Int32) : Prop :=
  p.tables.exec = Jvm.exec ∧ c.code = cL_law ∧ c.maxLocals = 9 ∧ s.vm.findClass RL = some m.cls ∧ (∀ w ∈ wsL_law, w.before args s = true) ∧
  va_K D vwCl (tysT T) s ∧ NW s ∧ XU s ∧ XZ (LwA s) s s.heap ∧ NcP s ∧ AD 34 ad ∧ AD 7 ad2 ∧ (∀ i j, i < 34 → j < 7 → ad i ≠ ad2 j) ∧ (∀ k, k < 34 → ad k ≠ ao) ∧ (∀ j, j < 7 → ad2 j ≠ ao) ∧
  (∀ k, k < 34 → s.heap.size ≤ ad k) ∧ (∀ j, j < 7 → s.heap.size ≤ ad2 j) ∧ s.heap.size ≤ ao ∧ va_X b L xs s s.heap ∧ b < s.heap.size ∧ l.stackTraces = false ∧ L ≤ 1536
def LJ (D : va_G) (T : Nat → ClassId) (ad ad2 : Nat → Nat) (ao : Nat) (H : Heap) : Prop :=
  ∃ (I : Nat → Int32) (R : Nat → Nat → Int32) (I2 : Nat → Int32) (R2 : Nat → Nat → Int32) (g : Nat → Int64) (m nx ct ks len : Nat), va_P D vwCl (cw T ad I R) H ∧ va_P D vwCl (mw T ad2 I2 R2) H ∧ va_P D vwCl (ow T ao g) H ∧ StP m nx ct ks len I R I2 R2
theorem lj_norm {D : va_G} {T : Nat → ClassId} {ad ad2 : Nat → Nat} {ao : Nat} {H : Heap} (J : LJ D T ad ad2 ao H) :
    ∃ (I : Nat → Int32) (R : Nat → Nat → Int32) (I2 : Nat → Int32) (R2 : Nat → Nat → Int32) (g : Nat → Int64) (m nx ct ks len : Nat), va_P D vwCl (cw T ad I R) H ∧ va_P D vwCl (mw T ad2 I2 R2) H ∧ va_P D vwCl (ow T ao g) H ∧ StP m nx ct ks len I R I2 R2 ∧ NmP R R2 := by
  obtain ⟨I, R, I2, R2, g, m, nx, ct, ks, len, hP, hM, hO, hJ⟩ := J
  obtain ⟨⟨a1, a2, a3, a4, a5, a6⟩, b, c, d, e⟩ := hJ
  have q0 : updR (updR (updR R 0 (R2 0)) 1 (qz (R2 0))) 18 (R2 4) 0 = R2 0 := by rw [ur_ne (by decide), ur_ne (by decide), ur_eq]
  have q1 : updR (updR (updR R 0 (R2 0)) 1 (qz (R2 0))) 18 (R2 4) 1 = qz (R2 0) := by rw [ur_ne (by decide), ur_eq]
  have qo : ∀ k, 2 ≤ k → k < 18 → updR (updR (updR R 0 (R2 0)) 1 (qz (R2 0))) 18 (R2 4) k = R k := fun k h1 h2 => by rw [ur_ne (by omega), ur_ne (by omega), ur_ne (by omega)]
  have hP1 : va_P D vwCl (cw T ad I (updR R 0 (R2 0))) H := cx_re hP cw_2 (fun j hj => a4 j hj) cw_R0
  have hP2 : va_P D vwCl (cw T ad I (updR (updR R 0 (R2 0)) 1 (qz (R2 0)))) H := cx_re hP1 cw_3 (fun j hj => (congrFun (ur_ne (by decide)) j).trans (a5 j hj)) cw_R1
  have hP3 : va_P D vwCl (cw T ad I (updR (updR (updR R 0 (R2 0)) 1 (qz (R2 0))) 18 (R2 4))) H := cx_re hP2 cw_8 (fun j hj => (congrFun ((ur_ne (by decide)).trans (ur_ne (by decide))) j).trans (e.2.2.2 j hj)) cw_R18
  refine ⟨I, _, I2, R2, g, m, nx, ct, ks, len, hP3, hM, hO, ⟨⟨a1, a2, a3, fun k hk => ?_, fun k hk => ?_, a6⟩, rg_fr b (fun _ _ => rfl) (fun k h1 h2 => qo k h1 (by omega)) (fun _ _ => rfl), c, sl_fr d (fun _ _ => rfl) (fun k h1 h2 => qo k (by omega) h2), ⟨e.1, e.2.1, e.2.2.1, fun i hi => by rw [ur_eq]⟩⟩, q0, q1, ur_eq⟩
  · show updR (updR (updR R 0 (R2 0)) 1 (qz (R2 0))) 18 (R2 4) 0 k = _
    rw [q0]
  · show updR (updR (updR R 0 (R2 0)) 1 (qz (R2 0))) 18 (R2 4) 1 k = _
    rw [q1]
    rfl
/-- numbers that pass a check -/
theorem out_le {x a b : Int32} (h : outI x a b = 0) : a.toInt ≤ x.toInt ∧ x.toInt ≤ b.toInt := by
  unfold outI at h
  split at h
  · cases h
  · split at h
    · cases h
    · rename_i h1 h2
      exact ⟨Int32.le_iff_toInt_le.mp (Int32.not_lt.mp h1), Int32.le_iff_toInt_le.mp (Int32.not_lt.mp h2)⟩
theorem out_nat {x : Int32} {n : Nat} (hn : n < 2 ^ 31) (h : outI x 0 (nI n) = 0) : ∃ k, k < n + 1 ∧ x = nI k := by
  obtain ⟨h1, h2⟩ := out_le h
  have e0 : (0 : Int32).toInt = 0 := rfl
  rw [nI_toInt hn] at h2
  rw [e0] at h1
  refine ⟨x.toInt.toNat, by omega, Int32.toInt_inj.mp ?_⟩
  rw [nI_toInt (by omega)]
  omega
theorem out_sgn {x : Int32} (h : outI x 33 126 = 0) : ∃ q, 33 ≤ q ∧ q ≤ 126 ∧ x = nI q := by
  obtain ⟨h1, h2⟩ := out_le h
  have e0 : (33 : Int32).toInt = 33 := rfl
  have e1 : (126 : Int32).toInt = 126 := rfl
  rw [e0] at h1
  rw [e1] at h2
  refine ⟨x.toInt.toNat, by omega, by omega, Int32.toInt_inj.mp ?_⟩
  rw [nI_toInt (by omega)]
  omega
theorem lg_self (x : Int64) : lg_cmp x x = 0 := (lg_cmp_eq x x).mpr rfl
section
variable {p : Program} {l : Launch} {e : Env} {s : State} {m : MethodId} {args : Array Value} {below : List Frame} {meth : Method} {c : Code} {H : Heap} {locs : List Loc} {cells slots : Nat} {Q : State → Prop}
variable {D : va_G} {T : Nat → ClassId} {ad ad2 : Nat → Nat} {ao : Nat} {b : Addr} {L : Nat} {xs : Nat → Int32} {ls : Array Slot} {pc i : Nat} {rest st0 : List Value} {a : Array Value}
/-- an argument out of the script -/
theorem lw_arg {q : Nat} {n : Int} {v : Int32} (C0 : LwF p l s m c args D T ad ad2 ao b L xs) (hS : va_S (LwA s) s.heap H locs) (h0 : ls[0]? = some (.val (.ref b))) (h4 : ls[4]? = some (.val (.int (nI i)))) (hi : i + q < L) (hn : Int32.ofInt n = nI q)
    (d0 : decode cL_law pc = .ok (.aload_n 0, 1)) (d1 : decode cL_law (pc + 1) = .ok (.iload 4, 2)) (d3 : decode cL_law (pc + 3) = .ok (.iconst n, 1)) (d4 : decode cL_law (pc + 4) = .ok (.iadd, 1)) (d5 : decode cL_law (pc + 5) = .ok (.iaload, 1)) (hv : xs (i + q) = v)
    (kk : W p l e room_1 s m args below meth c H locs cells slots Q (F0 m (pc + 6) ls (.int v :: rest))) : W p l e room_1 s m args below meth c H locs cells slots Q (F0 m pc ls rest) := by
  obtain ⟨hx, hb, -, -, -, -, -, -, -, -, -, -, -, -, -, -, -, -, hX, hbl, -, hL⟩ := C0
  refine lv_aload_n hx hb d0 rfl h0 ?_
  refine lv_iload hx hb d1 h4 ?_
  refine lv_iconst (v := nI q) hx hb d3 hn ?_
  refine lv_iadd hx hb d4 ?_
  rw [nI_add]
  refine va_sld hx hb hX hbl (Nat.not_le.mpr hbl) hS (vp_in_nI hi (by omega)) d5 ?_
  rw [nI_clamp (by omega), hv]
  exact kk
/-- behind a helper that returns 0 -/
theorem lw_hok {S : Type} {Pu : S → Prop} {I1 : S → Nat → Int32} {R1 : S → Nat → Nat → Int32} {G : S → Nat → Int64} {I2 : Nat → Int32} {R2 : Nat → Nat → Int32} (C0 : LwF p l s m c args D T ad ad2 ao b L xs) (hS : va_S (LwA s) s.heap H locs) (hM : va_P D vwCl (mw T ad2 I2 R2) H)
    (hr : va_Run p l e room_1 s m args below meth c H locs cells slots 0 0 (F0 m pc ls st0) rest (va_Qi (fun r (u : S) => r = 0 ∧ Pu u) (fun u t => va_P D vwCl (cw T ad (I1 u) (R1 u)) t.heap ∧ va_P D vwCl (ow T ao (G u)) t.heap) (hA ad ao H.size) a) (hA ad ao H.size))
    (kk : ∀ (u : S) (H1 : Heap) (locs1 : List Loc), va_P D vwCl (cw T ad (I1 u) (R1 u)) H1 → va_P D vwCl (ow T ao (G u)) H1 → va_P D vwCl (mw T ad2 I2 R2) H1 → va_S (LwA s) s.heap H1 locs1 → W p l e room_1 s m args below meth c H1 locs1 cells slots Q (F0 m (pc + 3) ls (.int 0 :: rest))) : W p l e room_1 s m args below meth c H locs cells slots Q (F0 m pc ls st0) := by
  obtain ⟨-, -, -, -, -, -, -, -, -, -, -, -, hap, -, hao2, hge, -, hgo, -⟩ := C0
  have hsub : ∀ q, hA ad ao H.size q → LwA s q := fun q h => by
    rcases h with (⟨k, hk, e1⟩ | h) | h
    · rw [e1]; exact hge k hk
    · exact Nat.le_trans hS.1 h
    · rw [h]; exact hgo
  refine va_calli hr hS (fun q _ h => hsub q h) hsub (fun r u t H1 locs1 ht _ hw hB _ hk hS1 => ?_)
  obtain ⟨e1, -⟩ := hw
  subst e1
  exact kk u H1 locs1 (by rw [← ht]; exact hB.1) (by rw [← ht]; exact hB.2) (mw_keptC hM hk hap hao2) hS1
/-- behind a helper that takes an exception -/
theorem lw_hth {F : Int32} {I I2 : Nat → Int32} {R R2 : Nat → Nat → Int32} {g : Nat → Int64} (hS : va_S (LwA s) s.heap H locs) (hP : va_P D vwCl (cw T ad I R) H) (hM : va_P D vwCl (mw T ad2 I2 R2) H) (hO : va_P D vwCl (ow T ao g) H)
    (hr : va_Run p l e room_1 s m args below meth c H locs cells slots 1 6 (F0 m pc ls st0) rest (RqI F a) (fun _ => False))
    (kk : ∀ (H1 : Heap) (locs1 : List Loc), va_P D vwCl (cw T ad I R) H1 → va_P D vwCl (ow T ao g) H1 → va_P D vwCl (mw T ad2 I2 R2) H1 → va_S (LwA s) s.heap H1 locs1 → W p l e room_1 s m args below meth c H1 locs1 (cells + 1) (slots + 6) Q (F0 m (pc + 3) ls (.int F :: rest))) : W p l e room_1 s m args below meth c H locs cells slots Q (F0 m pc ls st0) :=
  cx_rm hr hS (fun H1 locs1 hk hS1 => kk H1 locs1 (cx_keep hP hk) (cx_keep hO hk) (cx_keep hM hk) hS1)
/-- behind a call of the class -/
theorem lw_cA (C0 : LwF p l s m c args D T ad ad2 ao b L xs) (hS : va_S (LwA s) s.heap H locs) : ∀ q, cA 34 ad H.size q → LwA s q := fun q h => by
  obtain ⟨-, -, -, -, -, -, -, -, -, -, -, -, hap, -, hao2, hge, -, hgo, -⟩ := C0
  rcases h with ⟨k, hk, e1⟩ | h
  · rw [e1]; exact hge k hk
  · exact Nat.le_trans hS.1 h
theorem lw_mA (C0 : LwF p l s m c args D T ad ad2 ao b L xs) (hS : va_S (LwA s) s.heap H locs) : ∀ q, cA 7 ad2 H.size q → LwA s q := fun q h => by
  obtain ⟨-, -, -, -, -, -, -, -, -, -, -, -, hap, -, hao2, -, hge, hgo, -⟩ := C0
  rcases h with ⟨k, hk, e1⟩ | h
  · rw [e1]; exact hge k hk
  · exact Nat.le_trans hS.1 h
theorem hA_c {q sz : Nat} (h : ¬ hA ad ao sz q) : ¬ cA 34 ad sz q := fun h1 => h (Or.inl h1)
theorem mw_keptC2 {I2 : Nat → Int32} {R2 : Nat → Nat → Int32} {H1 : Heap} (C0 : LwF p l s m c args D T ad ad2 ao b L xs) (hM : va_P D vwCl (mw T ad2 I2 R2) H) (hk : ∀ q : Nat, q < H.size → ¬ cA 34 ad H.size q → H1[q]? = H[q]?) : va_P D vwCl (mw T ad2 I2 R2) H1 := by
  obtain ⟨-, -, -, -, -, -, -, -, -, -, -, -, hap, -, hao2, -, -, -, -⟩ := C0
  exact mw_keptC (ao := ao) hM (fun q h1 h2 => hk q h1 (hA_c h2)) hap hao2
theorem lw_ci {S : Type} {F : S → Int32} {Pu : S → Prop} {I1 : S → Nat → Int32} {R1 : S → Nat → Nat → Int32} {g : Nat → Int64} {I2 : Nat → Int32} {R2 : Nat → Nat → Int32} (C0 : LwF p l s m c args D T ad ad2 ao b L xs) (hS : va_S (LwA s) s.heap H locs) (hM : va_P D vwCl (mw T ad2 I2 R2) H) (hO : va_P D vwCl (ow T ao g) H)
    (hr : va_Run p l e room_1 s m args below meth c H locs cells slots 0 0 (F0 m pc ls st0) rest (va_Qi (fun r (u : S) => r = F u ∧ Pu u) (fun u t => va_P D vwCl (cw T ad (I1 u) (R1 u)) t.heap) (cA 34 ad H.size) a) (cA 34 ad H.size))
    (kk : ∀ (u : S) (H1 : Heap) (locs1 : List Loc), Pu u → va_P D vwCl (cw T ad (I1 u) (R1 u)) H1 → va_P D vwCl (ow T ao g) H1 → va_P D vwCl (mw T ad2 I2 R2) H1 → va_S (LwA s) s.heap H1 locs1 → W p l e room_1 s m args below meth c H1 locs1 cells slots Q (F0 m (pc + 3) ls (.int (F u) :: rest))) : W p l e room_1 s m args below meth c H locs cells slots Q (F0 m pc ls st0) :=
  cx_wi hr hS (lw_cA C0 hS) (lw_cA C0 hS) (fun u H1 locs1 hu hP hk hS1 => kk u H1 locs1 hu hP (ow_kept hO hk (by obtain ⟨-, -, -, -, -, -, -, -, -, -, -, -, -, hao, -⟩ := C0; exact hao)) (mw_keptC2 C0 hM hk) hS1)
theorem lw_cl {S : Type} {F : S → Int64} {Pu : S → Prop} {I1 : S → Nat → Int32} {R1 : S → Nat → Nat → Int32} {g : Nat → Int64} {I2 : Nat → Int32} {R2 : Nat → Nat → Int32} (C0 : LwF p l s m c args D T ad ad2 ao b L xs) (hS : va_S (LwA s) s.heap H locs) (hM : va_P D vwCl (mw T ad2 I2 R2) H) (hO : va_P D vwCl (ow T ao g) H)
    (hr : va_Run p l e room_1 s m args below meth c H locs cells slots 0 0 (F0 m pc ls st0) rest (va_Ql (fun r (u : S) => r = F u ∧ Pu u) (fun u t => va_P D vwCl (cw T ad (I1 u) (R1 u)) t.heap) (cA 34 ad H.size) a) (cA 34 ad H.size))
    (kk : ∀ (u : S) (H1 : Heap) (locs1 : List Loc), Pu u → va_P D vwCl (cw T ad (I1 u) (R1 u)) H1 → va_P D vwCl (ow T ao g) H1 → va_P D vwCl (mw T ad2 I2 R2) H1 → va_S (LwA s) s.heap H1 locs1 → W p l e room_1 s m args below meth c H1 locs1 cells slots Q (F0 m (pc + 3) ls (.long (F u) :: rest))) : W p l e room_1 s m args below meth c H locs cells slots Q (F0 m pc ls st0) :=
  cx_wl hr hS (lw_cA C0 hS) (lw_cA C0 hS) (fun u H1 locs1 hu hP hk hS1 => kk u H1 locs1 hu hP (ow_kept hO hk (by obtain ⟨-, -, -, -, -, -, -, -, -, -, -, -, -, hao, -⟩ := C0; exact hao)) (mw_keptC2 C0 hM hk) hS1)
/-- behind a reading call -/
theorem lw_ri {F : Int32} {I I2 : Nat → Int32} {R R2 : Nat → Nat → Int32} {g : Nat → Int64} (hS : va_S (LwA s) s.heap H locs) (hP : va_P D vwCl (cw T ad I R) H) (hM : va_P D vwCl (mw T ad2 I2 R2) H) (hO : va_P D vwCl (ow T ao g) H)
    (hr : va_Run p l e room_1 s m args below meth c H locs cells slots 0 0 (F0 m pc ls st0) rest (RqI F a) (fun _ => False))
    (kk : ∀ (H1 : Heap) (locs1 : List Loc), va_P D vwCl (cw T ad I R) H1 → va_P D vwCl (ow T ao g) H1 → va_P D vwCl (mw T ad2 I2 R2) H1 → va_S (LwA s) s.heap H1 locs1 → W p l e room_1 s m args below meth c H1 locs1 cells slots Q (F0 m (pc + 3) ls (.int F :: rest))) : W p l e room_1 s m args below meth c H locs cells slots Q (F0 m pc ls st0) :=
  cx_rm hr hS (fun H1 locs1 hk hS1 => kk H1 locs1 (cx_keep hP hk) (cx_keep hO hk) (cx_keep hM hk) hS1)
theorem lw_rd {F : UInt64} {I I2 : Nat → Int32} {R R2 : Nat → Nat → Int32} {g : Nat → Int64} (hS : va_S (LwA s) s.heap H locs) (hP : va_P D vwCl (cw T ad I R) H) (hM : va_P D vwCl (mw T ad2 I2 R2) H) (hO : va_P D vwCl (ow T ao g) H)
    (hr : va_Run p l e room_1 s m args below meth c H locs cells slots 0 0 (F0 m pc ls st0) rest (RqD F a) (fun _ => False))
    (kk : ∀ (H1 : Heap) (locs1 : List Loc), va_P D vwCl (cw T ad I R) H1 → va_P D vwCl (ow T ao g) H1 → va_P D vwCl (mw T ad2 I2 R2) H1 → va_S (LwA s) s.heap H1 locs1 → W p l e room_1 s m args below meth c H1 locs1 cells slots Q (F0 m (pc + 3) ls (.double F :: rest))) : W p l e room_1 s m args below meth c H locs cells slots Q (F0 m pc ls st0) :=
  va_calld hr hS (fun _ _ h => h.elim) (fun _ h => h.elim) (fun r _ t H1 locs1 _ _ hw _ _ hk hS1 => by
    have e1 : r = F := hw
    subst e1
    exact kk H1 locs1 (cx_keep hP hk) (cx_keep hO hk) (cx_keep hM hk) hS1)
/-- behind a call of the reference -/
theorem lw_mi {S : Type} {F : S → Int32} {Pu : S → Prop} {I : Nat → Int32} {R : Nat → Nat → Int32} {g : Nat → Int64} {J2 : S → Nat → Int32} {S2 : S → Nat → Nat → Int32} (C0 : LwF p l s m c args D T ad ad2 ao b L xs) (hS : va_S (LwA s) s.heap H locs) (hP : va_P D vwCl (cw T ad I R) H) (hO : va_P D vwCl (ow T ao g) H)
    (hr : va_Run p l e room_1 s m args below meth c H locs cells slots 0 0 (F0 m pc ls st0) rest (va_Qi (fun r (u : S) => r = F u ∧ Pu u) (fun u t => va_P D vwCl (mw T ad2 (J2 u) (S2 u)) t.heap) (cA 7 ad2 H.size) a) (cA 7 ad2 H.size))
    (kk : ∀ (u : S) (H1 : Heap) (locs1 : List Loc), Pu u → va_P D vwCl (cw T ad I R) H1 → va_P D vwCl (ow T ao g) H1 → va_P D vwCl (mw T ad2 (J2 u) (S2 u)) H1 → va_S (LwA s) s.heap H1 locs1 → W p l e room_1 s m args below meth c H1 locs1 cells slots Q (F0 m (pc + 3) ls (.int (F u) :: rest))) : W p l e room_1 s m args below meth c H locs cells slots Q (F0 m pc ls st0) :=
  cx_wi hr hS (lw_mA C0 hS) (lw_mA C0 hS) (fun u H1 locs1 hu hM hk hS1 => by
    obtain ⟨-, -, -, -, -, -, -, -, -, -, -, -, hap, -, hao2, -⟩ := C0
    exact kk u H1 locs1 hu (cw_keptM hP hk hap) (ow_kept hO hk hao2) hM hS1)
theorem lw_ml {S : Type} {F : S → Int64} {Pu : S → Prop} {I : Nat → Int32} {R : Nat → Nat → Int32} {g : Nat → Int64} {J2 : S → Nat → Int32} {S2 : S → Nat → Nat → Int32} (C0 : LwF p l s m c args D T ad ad2 ao b L xs) (hS : va_S (LwA s) s.heap H locs) (hP : va_P D vwCl (cw T ad I R) H) (hO : va_P D vwCl (ow T ao g) H)
    (hr : va_Run p l e room_1 s m args below meth c H locs cells slots 0 0 (F0 m pc ls st0) rest (va_Ql (fun r (u : S) => r = F u ∧ Pu u) (fun u t => va_P D vwCl (mw T ad2 (J2 u) (S2 u)) t.heap) (cA 7 ad2 H.size) a) (cA 7 ad2 H.size))
    (kk : ∀ (u : S) (H1 : Heap) (locs1 : List Loc), Pu u → va_P D vwCl (cw T ad I R) H1 → va_P D vwCl (ow T ao g) H1 → va_P D vwCl (mw T ad2 (J2 u) (S2 u)) H1 → va_S (LwA s) s.heap H1 locs1 → W p l e room_1 s m args below meth c H1 locs1 cells slots Q (F0 m (pc + 3) ls (.long (F u) :: rest))) : W p l e room_1 s m args below meth c H locs cells slots Q (F0 m pc ls st0) :=
  cx_wl hr hS (lw_mA C0 hS) (lw_mA C0 hS) (fun u H1 locs1 hu hM hk hS1 => by
    obtain ⟨-, -, -, -, -, -, -, -, -, -, -, -, hap, -, hao2, -⟩ := C0
    exact kk u H1 locs1 hu (cw_keptM hP hk hap) (ow_kept hO hk hao2) hM hS1)
theorem lw_md {S : Type} {F : S → UInt64} {Pu : S → Prop} {I : Nat → Int32} {R : Nat → Nat → Int32} {g : Nat → Int64} {J2 : S → Nat → Int32} {S2 : S → Nat → Nat → Int32} (C0 : LwF p l s m c args D T ad ad2 ao b L xs) (hS : va_S (LwA s) s.heap H locs) (hP : va_P D vwCl (cw T ad I R) H) (hO : va_P D vwCl (ow T ao g) H)
    (hr : va_Run p l e room_1 s m args below meth c H locs cells slots 0 0 (F0 m pc ls st0) rest (va_Qd (fun r (u : S) => r = F u ∧ Pu u) (fun u t => va_P D vwCl (mw T ad2 (J2 u) (S2 u)) t.heap) (cA 7 ad2 H.size) a) (cA 7 ad2 H.size))
    (kk : ∀ (u : S) (H1 : Heap) (locs1 : List Loc), Pu u → va_P D vwCl (cw T ad I R) H1 → va_P D vwCl (ow T ao g) H1 → va_P D vwCl (mw T ad2 (J2 u) (S2 u)) H1 → va_S (LwA s) s.heap H1 locs1 → W p l e room_1 s m args below meth c H1 locs1 cells slots Q (F0 m (pc + 3) ls (.double (F u) :: rest))) : W p l e room_1 s m args below meth c H locs cells slots Q (F0 m pc ls st0) :=
  va_calld hr hS (fun q _ h => lw_mA C0 hS q h) (lw_mA C0 hS) (fun r u t H1 locs1 ht _ hw hB _ hk hS1 => by
    obtain ⟨-, -, -, -, -, -, -, -, -, -, -, -, hap, -, hao2, -⟩ := C0
    obtain ⟨e1, hu⟩ := hw
    subst e1
    exact kk u H1 locs1 hu (cw_keptM hP hk hap) (ow_kept hO hk hao2) (by rw [← ht]; exact hB) hS1)
/-- what a case must come to -/
def LwK (p : Program) (l : Launch) (e : Env) (s : State) (m : MethodId) (args : Array Value) (below : List Frame) (meth : Method) (c : Code) (Q : State → Prop) (D : va_G) (T : Nat → ClassId) (ad ad2 : Nat → Nat) (ao : Nat) (b : Addr) (i cells slots : Nat) : Prop :=
  ∀ (H1 : Heap) (locs1 : List Loc) (ls1 : Array Slot) (c1 s1 : Nat), LJ D T ad ad2 ao H1 → va_S (LwA s) s.heap H1 locs1 → lv_has ls1 9 (lwLv b ad ad2 ao i) → c1 ≤ cells + 1 → s1 ≤ slots + 6 → W p l e room_1 s m args below meth c H1 locs1 c1 s1 Q (F0 m 1237 ls1 [])
/-- the end of a case whose class's call went through the helper -/
theorem lw_tail {I I2 : Nat → Int32} {R R2 : Nat → Nat → Int32} {g : Nat → Int64} {m9 nx ct ks len : Nat} {k v : Int32} {c0 s0 : Nat} {off : Int} (C0 : LwF p l s m c args D T ad ad2 ao b L xs) (hS : va_S (LwA s) s.heap H locs) (hP : va_P D vwCl (cw T ad I R) H) (hM : va_P D vwCl (mw T ad2 I2 R2) H) (hO : va_P D vwCl (ow T ao g) H)
    (hl : lv_has ls 9 [(6, .int v), (5, .int k), (0, .ref b), (1, .ref (ad 0)), (2, .ref (ad2 0)), (3, .ref ao), (4, .int (nI i))]) (h0 : I2 0 = k) (hg : k = 0 → g 0 = v.toInt64) (hJ : StP m9 nx ct ks len I R I2 R2)
    (d0 : decode cL_law pc = .ok (.aload_n 2, 1)) (d1 : decode cL_law (pc + 1) = .ok (.invokevirtual 76, 3)) (d4 : decode cL_law (pc + 4) = .ok (.iload 5, 2)) (d6 : decode cL_law (pc + 6) = .ok (.if_icmp .eq 5, 3)) (d11 : decode cL_law (pc + 11) = .ok (.iload 5, 2)) (d13 : decode cL_law (pc + 13) = .ok (.ifCond .ne 15, 3))
    (d16 : decode cL_law (pc + 16) = .ok (.aload_n 3, 1)) (d17 : decode cL_law (pc + 17) = .ok (.iconst 0, 1)) (d18 : decode cL_law (pc + 18) = .ok (.laload, 1)) (d19 : decode cL_law (pc + 19) = .ok (.iload 6, 2)) (d21 : decode cL_law (pc + 21) = .ok (.i2l, 1)) (d22 : decode cL_law (pc + 22) = .ok (.lcmp, 1)) (d23 : decode cL_law (pc + 23) = .ok (.ifCond .eq 5, 3)) (d28 : decode cL_law (pc + 28) = .ok (.goto off, 3)) (ht : ((pc + 28 : Nat) : Int) + off = ((1237 : Nat) : Int))
    (hc : cells ≤ c0 + 1) (hs : slots ≤ s0 + 6) (hc9 : cells + 0 ≤ room_1.cells) (hs9 : slots + 0 ≤ room_1.slots) (kN : LwK p l e s m args below meth c Q D T ad ad2 ao b i c0 s0) : W p l e room_1 s m args below meth c H locs cells slots Q (F0 m pc ls []) := by
  have C1 := C0
  obtain ⟨hx, hb, hml, hown, hts, hK, hN, -, -, -, -, -, -, -, -, -, -, -, -, -, -, -⟩ := C0
  refine lv_aload_n hx hb d0 rfl (lv_at hl 4 rfl) ?_
  refine lw_ri hS hP hM hO (va_runV (As := []) (rest := []) ⟨hx, hb, hml, hown, hts⟩ (c_X4_thrown l D T ad2 I2 R2) (cwV 0 hts gL_law_X4_thrown rfl rfl rfl (by decide +kernel) ⟨Nat.le_of_ble_eq_true rfl, Nat.le_of_ble_eq_true rfl⟩) ⟨MR.blind, va_recv hK hM (ci := 4) (q0 := 0) rfl mw_0, MR.pre hM hK rfl⟩ rfl rfl hl.1 rfl (lv_room (Nat.le_of_ble_eq_true rfl)) d1 ⟨hc9, hs9⟩) (fun H locs hP hO hM hS => ?_)
  rw [h0]
  refine lv_iload hx hb d4 (lv_at hl 1 rfl) ?_
  have ht5 : ((pc + 6 : Nat) : Int) + 5 = ((pc + 11 : Nat) : Int) := by omega
  refine lv_icmp_eq (tgt := pc + 11) hx hb d6 ht5 (fun _ => ?_) (fun h => absurd rfl h)
  refine lv_iload hx hb d11 (lv_at hl 1 rfl) ?_
  have kE : ∀ (H1 : Heap) (locs1 : List Loc), va_P D vwCl (cw T ad I R) H1 → va_P D vwCl (ow T ao g) H1 → va_P D vwCl (mw T ad2 I2 R2) H1 → va_S (LwA s) s.heap H1 locs1 → W p l e room_1 s m args below meth c H1 locs1 cells slots Q (F0 m (pc + 28) ls []) := fun H1 locs1 hP hO hM hS => by
    refine lv_goto (tgt := 1237) hx hb d28 ht ?_
    exact kN H1 locs1 ls _ _ ⟨I, R, I2, R2, g, m9, nx, ct, ks, len, hP, hM, hO, hJ⟩ hS (lv_sub hl [2, 3, 4, 5, 6] rfl) hc hs
  have ht13 : ((pc + 13 : Nat) : Int) + 15 = ((pc + 28 : Nat) : Int) := by omega
  refine lv_if_ne (tgt := pc + 28) hx hb d13 ht13 (fun _ => kE _ _ hP hO hM hS) (fun h => ?_)
  have hk0 : k = 0 := h
  refine lv_aload_n hx hb d16 rfl (lv_at hl 5 rfl) ?_
  refine lv_iconst (v := 0) hx hb d17 (by decide) ?_
  refine va_lald hx hb hK hO 0 4 (n := 1) (f := g) rfl rfl (show ¬ ((0 : Int32) < 0 ∨ 1 ≤ (0 : Int32).toNatClampNeg) by decide) d18 ?_
  refine lv_iload hx hb d19 (lv_at hl 0 rfl) ?_
  refine lv_i2l hx hb d21 rfl ?_
  refine W.lcmp hx hb d22 ?_
  have hz : lg_cmp (g (0 : Int32).toNatClampNeg) v.toInt64 = 0 := by
    rw [show g (0 : Int32).toNatClampNeg = g 0 from rfl, hg hk0]
    exact lg_self _
  have ht23 : ((pc + 23 : Nat) : Int) + 5 = ((pc + 28 : Nat) : Int) := by omega
  refine lv_if_eq (tgt := pc + 28) hx hb d23 ht23 (fun _ => kE _ _ hP hO hM hS) (fun h => absurd hz h)
end

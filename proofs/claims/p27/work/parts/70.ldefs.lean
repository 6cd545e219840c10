/-! the law: a place of the script; what holds at its loop's head -/
def SX (b L : Nat) (xs : Nat → Int32) (U : State) : Prop := va_X b L xs U U.heap ∧ b < U.heap.size
theorem SX.blind {b L : Nat} {xs : Nat → Int32} {av : List Value} : FrameBlind (va_Pc av (SX b L xs)) := fun a U g mk q => ⟨q.1, va_X.moved (u := U) (U := U.calling g mk a) (Vm.Alike.refl U.vm) q.2.1, q.2.2⟩
theorem SX.pre {b L : Nat} {xs : Nat → Int32} {A : Nat → Prop} {s : State} {H : Heap} {locs : List Loc} (hX : va_X b L xs s s.heap) (hbl : b < s.heap.size) (hbA : ¬ A b) (hS : va_S A s.heap H locs) {av : List Value} {v : Array Value} (hv : v = av.toArray) : ∀ U : State, U.heap = H → s.WarmedH U.vm → va_Pc av (SX b L xs) v U := fun U hU hW =>
  ⟨hv, by rw [hU]; exact va_X.moved hW.alike (hX.kept (hS.2.1 b hbl hbA)), by rw [hU]; exact Nat.lt_of_lt_of_le hbl hS.1⟩
def ceF (L : Nat) (xs : Nat → Int32) (k : Nat) : Int32 := if k < L then xs k else 1955562222 * nI (k + 1)
set_option maxHeartbeats 4000000 in
theorem c_L_cell (l : Launch) (b L : Nat) (xs : Nat → Int32) (k : Nat) (hk : k < 1000) (hL : L ≤ 260) : Met l yL_cell wsL_cell ({ frames := 0, cells := 0, slots := 0, locals := 0 }) (va_Pc [.ref b, .int (nI k)] (SX b L xs)) (RqI (ceF L xs k)) 0 0 (fun _ => False) := by
  refine Met.ofW (cc := cL_cell) (maxL := 2) (ret := (some .int)) (by decide) rfl ?_
  intro p e s m args_ below meth c s₁ B hml hv
  obtain ⟨rfl, hX, hbl⟩ := hv
  have hx := B.exec
  have hb := B.bytes
  have hr := B.returns
  have hts := atoms_spec (ws := wsL_cell) B.pre
  have hown : s.vm.findClass RL = some m.cls := findClass_of_methodNamed B.named
  have hlocks := B.notSynchronized
  have hS : va_S (fun _ => False) s.heap s.heap [] := va_S.rf
  have hl := lv_entry ([.ref b, .int (nI k)]) (n := 2) (Nat.le_of_ble_eq_true rfl)
  rw [lg_entry_eq]
  generalize (lg_sl ([.ref b, .int (nI k)]) ++ List.replicate (2 - (lg_sl ([.ref b, .int (nI k)])).length) Slot.unset).toArray = ls at hl ⊢
  have hl : lv_has ls 2 [(0, .ref b), (1, .int (nI k))] := hl
  refine lv_iload_n hx hb dL_cell_0 rfl (lv_at hl 1 rfl) ?_
  refine lv_aload_n hx hb dL_cell_1 rfl (lv_at hl 0 rfl) ?_
  refine va_slen hx hb hX hbl (fun h => h) hS dL_cell_2 ?_
  refine lv_icmp_ge (tgt := 12) hx hb dL_cell_3 (by decide) (fun h => ?_) (fun h => ?_)
  · have h1 : L ≤ k := (nI_leI (a := L) (b := k) (by omega) (by omega)).mp h
    refine lv_ldc (v := 1955562222) hx hb hown (hts (.constant RL 7 (1955562222)) (by decide +kernel)) dL_cell_12 ?_
    refine lv_iload_n hx hb dL_cell_14 rfl (lv_at hl 1 rfl) ?_
    refine lv_iconst (v := 1) hx hb dL_cell_15 (by decide) ?_
    refine lv_iadd hx hb dL_cell_16 ?_
    refine cx_top (nI_add k 1) ?_
    refine lv_imul hx hb dL_cell_17 ?_
    exact W.iret hx hb hr (fun t ht hW => ⟨⟨_, (), rfl, (if_neg (Nat.not_lt.mpr h1)).symm, trivial⟩, hS.F ht⟩) hS.2.2 dL_cell_18
  · have h1 : k < L := Nat.not_le.mp (fun h2 => h ((nI_leI (a := L) (b := k) (by omega) (by omega)).mpr h2))
    refine lv_aload_n hx hb dL_cell_6 rfl (lv_at hl 0 rfl) ?_
    refine lv_iload_n hx hb dL_cell_7 rfl (lv_at hl 1 rfl) ?_
    refine va_sld hx hb hX hbl (fun h => h) hS (vp_in_nI h1 (by omega)) dL_cell_8 ?_
    rw [nI_clamp (by omega)]
    refine lv_goto (tgt := 18) hx hb dL_cell_9 (by decide) ?_
    exact W.iret hx hb hr (fun t ht hW => ⟨⟨_, (), rfl, (if_pos h1).symm, trivial⟩, hS.F ht⟩) hS.2.2 dL_cell_18
theorem jl_up {lm nx ct k : Nat} {I : Nat → Int32} {R : Nat → Nat → Int32} {f : Nat → Int32} (hk : k = 19 ∨ k = 23) (h : JL lm nx ct I R) : JL lm nx ct I (updR R k f) := by
  unfold JL at h ⊢
  obtain ⟨a1, a2, a3, a4, a5, a6, a7, a8, a9, a10, a11, a12⟩ := h
  refine ⟨a1, a2, a3, a4, a5, a6, ?_, ?_, ?_, ?_, ?_, ?_⟩
  · rw [ur_ne (by omega), ur_ne (by omega)]; exact a7
  · rw [ur_ne (by omega), ur_ne (by omega)]; exact a8
  · rw [ur_ne (by omega)]; exact a9
  · rw [ur_ne (by omega)]; exact a10
  · rw [ur_ne (by omega)]; exact a11
  · rw [ur_ne (by omega)]; exact a12
theorem ht_19 {lm : Nat} {R : Nat → Nat → Int32} {f : Nat → Int32} (h : R 23 = fun n => trS (dr (R 20) lm) n 8) : updR R 19 f 23 = fun n => trS (dr (updR R 19 f 20) lm) n 8 := by
  rw [ur_ne (by decide), ur_ne (by decide)]; exact h
theorem ht_23 {lm : Nat} {R : Nat → Nat → Int32} : updR R 23 (fun n => trS (dr (R 20) lm) n 8) 23 = fun n => trS (dr (updR R 23 (fun n => trS (dr (R 20) lm) n 8) 20) lm) n 8 := by
  rw [ur_eq, ur_ne (by decide)]
theorem so_e {j n : Nat} (hj : j < n) (h : n ≤ 600000) : outI (nI j) 0 9999999 = 0 := out_in (by rw [nI_toInt (by omega)]; show (0 : Int) ≤ _; omega) (by rw [nI_toInt (by omega)]; show _ ≤ (9999999 : Int); omega)
def LwA (s : State) : Nat → Prop := fun q => s.heap.size ≤ q
def LJ (D : va_G) (T : Nat → ClassId) (ad : Nat → Nat) (H : Heap) : Prop := ∃ (I : Nat → Int32) (R : Nat → Nat → Int32) (lm nx ct : Nat), va_P D vwCl (pw T ad I R) H ∧ JL lm nx ct I R ∧ R 23 = fun n => trS (dr (R 20) lm) n 8
def LwF (p : Program) (l : Launch) (s : State) (m : MethodId) (c : Code) (args : Array Value) (D : va_G) (T : Nat → ClassId) (ad : Nat → Nat) (b : Addr) (L : Nat) (xs : Nat → Int32) : Prop :=
  p.tables.exec = Jvm.exec ∧ c.code = cL_law ∧ c.maxLocals = 11 ∧ s.vm.findClass RL = some m.cls ∧ (∀ w ∈ wsL_law, w.before args s = true) ∧ va_K D vwCl (tysT T) s ∧ NW s ∧ XU s ∧ XZ (LwA s) s s.heap ∧ NcP s ∧ AD 39 ad ∧ (∀ k, k < 39 → s.heap.size ≤ ad k) ∧ va_X b L xs s s.heap ∧ b < s.heap.size ∧ l.stackTraces = false ∧ L ≤ 260
abbrev lwLv (b : Addr) (ad : Nat → Nat) (i : Nat) : List (Nat × Value) := [(0, .ref b), (1, .ref (ad 0)), (2, .ref (ad 34)), (3, .ref (ad 35)), (4, .ref (ad 36)), (5, .ref (ad 37)), (6, .ref (ad 38)), (7, .int (nI i))]


/-! the law's helpers: the class's world and the row that takes the answer -/
def ow (T : Nat → ClassId) (ao : Nat) (g : Nat → Int64) : va_W := [(ao, .inl (T 4, 1, .inr (.inl g)))]
def hA (ad : Nat → Nat) (ao sz : Nat) : Nat → Prop := fun q => cA 34 ad sz q ∨ q = ao
/-- a method with a table of handlers that returns -/
theorem metH_ofW {l : Launch} {y : MethodName} {ws ws' : List Cond} {rm : Room} {Pc : Array Value → State → Prop} {Qc : Array Value → State → Outcome → State → Prop} {mc ms : Nat} {free : Addr → Prop} {cc : ByteArray} {maxL : Nat} {ret : Option FieldType} {hh : List (Nat × Nat × Nat × Nat)}
    (hy : plainName y.cls = true) (hw : ws = Cond.codeWith y cc maxL ret hh :: ws')
    (body : ∀ p e s m args below meth c s₁, BodyLoose p l y (headSpec ws rm) cc maxL ret e s m args below meth c s₁ → c.maxLocals = maxL → Pc args s →
      W p l e (headSpec ws rm).room s m args below meth c s.heap [] 0 0 (MQ below Qc args s mc ms free) (entryFrame m args maxL)) : Met l y ws rm Pc Qc mc ms free := by
  refine MetFree.of_bodyS (code := cc) (maxLocals := maxL) (ret := ret) hy ?_ ?_
  · intro args s m h hn
    obtain ⟨m9, meth, c, hn9, h1, h2, h3, h4, -, h5, h6, -⟩ := Cond.codeWith_spec (atoms_spec (ws := ws) h _ (by rw [hw]; exact List.mem_cons_self))
    cases hn.symm.trans hn9
    exact ⟨meth, c, h1, h2, h3, h4, h5, h6⟩
  · intro p e s m args below meth c s₁ B hml hP _
    have hh0 : s₁.heap = s.heap := by rw [B.state]; rfl
    obtain ⟨t, a1, o, b1, b2, b3⟩ := body p e s m args below meth c s₁ B hml hP s₁ hh0 (Stand.of_body B)
    exact ⟨t, o, a1, b1, b2, ⟨b3.1, b3.2⟩⟩
def HB (D : va_G) (T : Nat → ClassId) (ad : Nat → Nat) (ao : Nat) (I : Nat → Int32) (R : Nat → Nat → Int32) (g : Nat → Int64) (sz : Nat) (U : State) : Prop := U.heap.size = sz ∧ CR D T ad I R U ∧ va_P D vwCl (ow T ao g) U.heap
theorem HB.blind {D : va_G} {T : Nat → ClassId} {ad : Nat → Nat} {ao : Nat} {I : Nat → Int32} {R : Nat → Nat → Int32} {g : Nat → Int64} {sz : Nat} {av : List Value} : FrameBlind (va_Pc av (HB D T ad ao I R g sz)) := fun a U g9 mk q => ⟨q.1, q.2.1, ⟨q.2.2.1.1, va_K.moved (u := U) (U := U.calling g9 mk a) (Vm.Alike.refl U.vm) q.2.2.1.2.1, NW.same (u := U) (U := U.calling g9 mk a) rfl q.2.2.1.2.2⟩, q.2.2.2⟩
theorem HB.pre {D : va_G} {T : Nat → ClassId} {ad : Nat → Nat} {ao : Nat} {I : Nat → Int32} {R : Nat → Nat → Int32} {g : Nat → Int64} {s : State} {H : Heap} (hP : va_P D vwCl (cw T ad I R) H) (hO : va_P D vwCl (ow T ao g) H) (hK : va_K D vwCl (tysT T) s) (hN : NW s) {av : List Value} {v : Array Value} (hv : v = av.toArray) : ∀ U : State, U.heap = H → s.WarmedH U.vm → va_Pc av (HB D T ad ao I R g H.size) v U := fun U hU hW => ⟨hv, by rw [hU], ⟨by rw [hU]; exact hP, va_K.moved hW.alike hK, NW.warm hW hN⟩, by rw [hU]; exact hO⟩
/-- what a world keeps where nothing of it changes -/
theorem wd_kept {D : va_G} {cl : List vw_C} {ws : va_W} {H H1 : Heap} {A : Nat → Prop} (hP : va_P D cl ws H) (hk : ∀ q : Nat, q < H.size → ¬ A q → H1[q]? = H[q]?) (hA : ∀ (k : Nat) (q : Nat × va_E), ws[k]? = some q → q.1 < H.size → ¬ A q.1) : va_P D cl ws H1 := hP.kept fun k q hq => hk q.1 (hP k q hq).lt (hA k q hq (hP k q hq).lt)
theorem ow_q {T : Nat → ClassId} {ao : Nat} {g : Nat → Int64} {k : Nat} {q : Nat × va_E} (h : (ow T ao g)[k]? = some q) : q.1 = ao := by
  rcases k with _ | k
  · cases h; rfl
  · simp [ow] at h
theorem ow_kept {D : va_G} {T : Nat → ClassId} {ad : Nat → Nat} {n ao : Nat} {g : Nat → Int64} {H H1 : Heap} (hO : va_P D vwCl (ow T ao g) H) (hk : ∀ q : Nat, q < H.size → ¬ cA n ad H.size q → H1[q]? = H[q]?) (hao : ∀ k, k < n → ad k ≠ ao) : va_P D vwCl (ow T ao g) H1 := wd_kept hO hk fun k q hq hl h => by
  rw [ow_q hq] at hl h
  rcases h with ⟨k, hk, e⟩ | h
  · exact hao k hk e.symm
  · omega
theorem mw_keptC {D : va_G} {T : Nat → ClassId} {ad ad2 : Nat → Nat} {ao : Nat} {I2 : Nat → Int32} {R2 : Nat → Nat → Int32} {H H1 : Heap} (hM : va_P D vwCl (mw T ad2 I2 R2) H) (hk : ∀ q : Nat, q < H.size → ¬ hA ad ao H.size q → H1[q]? = H[q]?) (hap : ∀ i j, i < 34 → j < 7 → ad i ≠ ad2 j) (hao2 : ∀ j, j < 7 → ad2 j ≠ ao) : va_P D vwCl (mw T ad2 I2 R2) H1 := wd_kept hM hk fun k q hq hl h => by
  obtain ⟨hk7, e⟩ := mw_ad hq
  rw [e] at hl h
  rcases h with (⟨i, hi, e2⟩ | h) | h
  · exact hap i k hi hk7 e2.symm
  · omega
  · exact hao2 k hk7 h
theorem cw_keptM {D : va_G} {T : Nat → ClassId} {ad ad2 : Nat → Nat} {I : Nat → Int32} {R : Nat → Nat → Int32} {H H1 : Heap} (hP : va_P D vwCl (cw T ad I R) H) (hk : ∀ q : Nat, q < H.size → ¬ cA 7 ad2 H.size q → H1[q]? = H[q]?) (hap : ∀ i j, i < 34 → j < 7 → ad i ≠ ad2 j) : va_P D vwCl (cw T ad I R) H1 := wd_kept hP hk fun k q hq hl h => by
  obtain ⟨hk7, e⟩ := cw_ad hq
  rw [e] at hl h
  rcases h with ⟨i, hi, e2⟩ | h
  · exact hap k i hk7 hi e2
  · omega
theorem co_D {A : Nat → Prop} {T : Nat → ClassId} {ad : Nat → Nat} {ao : Nat} {I : Nat → Int32} {R : Nat → Nat → Int32} {g : Nat → Int64} (hAD : AD 34 ad) (hao : ∀ k, k < 34 → ad k ≠ ao) (hA : ∀ k, k < 34 → A (ad k)) (hAo : A ao) : va_D A (cw T ad I R ++ ow T ao g) := by
  have hc := cw_D (A := A) (T := T) (I := I) (R := R) hAD hA
  refine va_D.app hc ⟨fun i j p q hi hj _ => ?_, fun k q hq => by rw [ow_q hq]; exact hAo⟩ (fun i j p q hi hj e => ?_)
  · rcases i with _ | i
    · rcases j with _ | j
      · rfl
      · simp [ow] at hj
    · simp [ow] at hi
  · obtain ⟨h1, h2⟩ := cw_ad hi
    rw [ow_q hj, h2] at e
    exact hao i h1 e
section
variable {p : Program} {l : Launch} {e : Env} {R0 : Room} {s : State} {m : MethodId} {args : Array Value} {below : List Frame} {meth : Method} {c : Code} {H : Heap} {locs : List Loc} {cells slots : Nat} {Q : State → Prop}
variable {mc ms : Nat} {A0 : Nat → Prop} {H0 : Heap} {a : Array Value} {pc : Nat} {ls : Array Slot} {st0 rest : List Value} {cc : ByteArray}
variable {D : va_G} {T : Nat → ClassId} {ad : Nat → Nat} {ao : Nat} {I : Nat → Int32} {R : Nat → Nat → Int32} {g : Nat → Int64}
/-- the answer into the row of one place -/
theorem cx_lasto (hexec : p.tables.exec = Jvm.exec) (hb : c.code = cc) (hK : va_K D vwCl (tysT T) s) (hP : va_P D vwCl (cw T ad I R) H) (hO : va_P D vwCl (ow T ao g) H) (hAD : AD 34 ad) (hao : ∀ k, k < 34 → ad k ≠ ao) (hA : ∀ k, k < 34 → A0 (ad k)) (hAo : A0 ao) (hS : va_S A0 H0 H locs) {x : Int64} (hdg : decode cc pc = .ok (.lastore, 1))
    (kk : ∀ (H1 : Heap) (locs1 : List Loc), va_P D vwCl (cw T ad I R) H1 → va_P D vwCl (ow T ao (vp_updL g 0 x)) H1 → va_S A0 H0 H1 locs1 → W p l e R0 s m args below meth c H1 locs1 cells slots Q (F0 m (pc + 1) ls rest)) : W p l e R0 s m args below meth c H locs cells slots Q (F0 m pc ls (.long x :: .int 0 :: .ref ao :: rest)) := by
  refine va_last hexec hb hK (hP.app hO) (co_D hAD hao hA hAo) hS 34 4 (n := 1) (f := g) rfl rfl (show ¬ ((0 : Int32) < 0 ∨ 1 ≤ (0 : Int32).toNatClampNeg) by decide) hdg (fun H1 locs1 hP1 _ hS1 => ?_)
  exact kk H1 locs1 (hP1.sub (List.range 34) rfl) (hP1.sub [34] rfl) hS1
/-- behind a call that only makes new things -/
theorem cx_rm {F : Int32} (hr : va_Run p l e R0 s m args below meth c H locs cells slots mc ms (F0 m pc ls st0) rest (RqI F a) (fun _ => False)) (hS : va_S A0 H0 H locs)
    (kk : ∀ (H1 : Heap) (locs1 : List Loc), (∀ q : Nat, q < H.size → ¬ False → H1[q]? = H[q]?) → va_S A0 H0 H1 locs1 → W p l e R0 s m args below meth c H1 locs1 (cells + mc) (slots + ms) Q (F0 m (pc + 3) ls (.int F :: rest))) : W p l e R0 s m args below meth c H locs cells slots Q (F0 m pc ls st0) :=
  va_calli hr hS (fun _ _ h => h.elim) (fun _ h => h.elim) (fun r _ t H1 locs1 _ _ hw _ _ hk hS1 => by
    have e : r = F := hw
    subst e
    exact kk H1 locs1 hk hS1)
end
/-- classes of exceptions that aren't each other's -/
def NcP (U : State) : Prop := va_Nc "java/lang/IllegalArgumentException" "java/lang/IndexOutOfBoundsException" U ∧ va_Nc "java/lang/IllegalStateException" "java/lang/IllegalArgumentException" U
def XN (D : va_G) (T : Nat → ClassId) (ad : Nat → Nat) (I : Nat → Int32) (R : Nat → Nat → Int32) (U : State) : Prop := XR D T ad I R U ∧ NcP U
theorem XN.blind {D : va_G} {T : Nat → ClassId} {ad : Nat → Nat} {I : Nat → Int32} {R : Nat → Nat → Int32} {av : List Value} : FrameBlind (va_Pc av (XN D T ad I R)) := fun a U g mk q => ⟨q.1, (XR.blind (av := av) a U g mk ⟨q.1, q.2.1⟩).2, ⟨va_Nc.moved (u := U) (U := U.calling g mk a) (Vm.Alike.refl U.vm) q.2.2.1, va_Nc.moved (u := U) (U := U.calling g mk a) (Vm.Alike.refl U.vm) q.2.2.2⟩⟩
theorem XN.pre {D : va_G} {T : Nat → ClassId} {ad : Nat → Nat} {I : Nat → Int32} {R : Nat → Nat → Int32} {A : Nat → Prop} {s : State} {H : Heap} {locs : List Loc} (hP : va_P D vwCl (cw T ad I R) H) (hK : va_K D vwCl (tysT T) s) (hN : NW s) (hXU : XU s) (hXZ : XZ A s s.heap) (hNc : NcP s) (hS : va_S A s.heap H locs) {av : List Value} {v : Array Value} (hv : v = av.toArray) : ∀ U : State, U.heap = H → s.WarmedH U.vm → va_Pc av (XN D T ad I R) v U := fun U hU hW =>
  ⟨hv, (XR.pre hP hK hN hXU hXZ hS (av := av) hv U hU hW).2, ⟨va_Nc.moved hW.alike hNc.1, va_Nc.moved hW.alike hNc.2⟩⟩


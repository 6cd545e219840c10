/-! what is made: arrays of the known classes, constructors -/
theorem cell_congrq {c : ClassId} {n : Nat} {f g : Nat → Option Nat} (h : ∀ j, j < n → f j = g j) : vp_cell c (n, .inr (.inr (.inr (.inr f)))) = vp_cell c (n, .inr (.inr (.inr (.inr g)))) := by
  have e : (fun j : Fin n => va_rf (f j.val)) = fun j : Fin n => va_rf (g j.val) := funext fun j => by rw [h j.val j.isLt]
  simp only [vp_cell, arrV, e]
theorem cx_req {D : va_G} {cl : List vw_C} {ws w1 : va_W} {H1 : Heap} {k ax : Nat} {cA : ClassId} {n : Nat} {f g : Nat → Option Nat} (hP : va_P D cl ws H1) (ha : ws[k]? = some (ax, .inl (cA, n, .inr (.inr (.inr (.inr f)))))) (hfg : ∀ j, j < n → f j = g j) (hset : ws.set k (ax, .inl (cA, n, .inr (.inr (.inr (.inr g))))) = w1) : va_P D cl w1 H1 := by
  subst hset
  intro i q hq
  rw [List.getElem?_set] at hq
  split at hq
  · rename_i h
    subst h
    split at hq
    · cases hq
      have h1 := hP k _ ha
      show H1[ax]? = some (vp_cell cA (n, .inr (.inr (.inr (.inr g)))))
      rw [← cell_congrq hfg]
      exact h1
    · cases hq
  · exact hP i q hq
section
variable {p : Program} {l : Launch} {e : Env} {R : Room} {s : State} {m : MethodId} {args : Array Value} {below : List Frame} {meth : Method} {c : Code} {H : Heap} {locs : List Loc} {cells slots : Nat} {Q : State → Prop}
variable {A : Nat → Prop} {H0 : Heap} {pc : Nat} {ls : Array Slot} {rest : List Value} {cc : ByteArray} {D : va_G} {T : Nat → ClassId} {ws : va_W}
theorem cx_newi (hexec : p.tables.exec = Jvm.exec) (hb : c.code = cc) (harr : (Cond.arrayClass .int).before args s = true) (hK : va_K D vwCl (tysT T) s) (hP : va_P D vwCl ws H) (hD : va_D A ws) (hS : va_S A H0 H locs) (hA : ∀ q, H0.size ≤ q → A q)
    {n : Int32} (N : Nat) (hn : ¬ n < 0) (hN : n.toNatClampNeg = N) (hbytes : N * componentBytes .int ≤ 536870912) (hcells : cells + 1 ≤ R.cells) (hslots : slots + N ≤ R.slots) (hdg : decode cc pc = .ok (.newarray .int, 2))
    (kk : ∀ (q : Nat) (H1 : Heap), va_P D vwCl (ws ++ [(q, .inl (T 1, N, .inl (fun _ => 0)))]) H1 → va_D A (ws ++ [(q, .inl (T 1, N, .inl (fun _ => 0)))]) → va_S A H0 H1 locs → W p l e R s m args below meth c H1 locs (cells + 1) (slots + N) Q (F0 m (pc + 2) ls (.ref q :: rest))) : W p l e R s m args below meth c H locs cells slots Q (F0 m pc ls (.int n :: rest)) := by
  refine va_newa hexec hb (atype := .int) harr (ty := .int) rfl hK hP hD hS hA (a0 := (N, .inl (fun _ => 0))) (fun cA => rfl) hn hN hbytes hcells hslots hdg (fun q cA H1 hK1 hP1 hD1 hS1 => ?_)
  have e1 := va_nm_int (hK1.2 4 (cA, .int) rfl).2
  have e2 := va_nm_int (hK.2 1 _ rfl).2
  have e : cA = T 1 := Option.some.inj (e1.symm.trans e2)
  subst e
  exact kk q H1 hP1 hD1 hS1
theorem cx_newc (hexec : p.tables.exec = Jvm.exec) (hb : c.code = cc) (harr : (Cond.arrayClass .char).before args s = true) (hK : va_K D vwCl (tysT T) s) (hP : va_P D vwCl ws H) (hD : va_D A ws) (hS : va_S A H0 H locs) (hA : ∀ q, H0.size ≤ q → A q)
    {n : Int32} (N : Nat) (hn : ¬ n < 0) (hN : n.toNatClampNeg = N) (hbytes : N * componentBytes .char ≤ 536870912) (hcells : cells + 1 ≤ R.cells) (hslots : slots + N ≤ R.slots) (hdg : decode cc pc = .ok (.newarray .char, 2))
    (kk : ∀ (q : Nat) (H1 : Heap), va_P D vwCl (ws ++ [(q, .inl (T 0, N, .inl (fun _ => 0)))]) H1 → va_D A (ws ++ [(q, .inl (T 0, N, .inl (fun _ => 0)))]) → va_S A H0 H1 locs → W p l e R s m args below meth c H1 locs (cells + 1) (slots + N) Q (F0 m (pc + 2) ls (.ref q :: rest))) : W p l e R s m args below meth c H locs cells slots Q (F0 m pc ls (.int n :: rest)) := by
  refine va_newa hexec hb (atype := .char) harr (ty := .char) rfl hK hP hD hS hA (a0 := (N, .inl (fun _ => 0))) (fun cA => rfl) hn hN hbytes hcells hslots hdg (fun q cA H1 hK1 hP1 hD1 hS1 => ?_)
  have e1 := va_nm_char (hK1.2 4 (cA, .char) rfl).2
  have e2 := va_nm_char (hK.2 0 _ rfl).2
  have e : cA = T 0 := Option.some.inj (e1.symm.trans e2)
  subst e
  exact kk q H1 hP1 hD1 hS1
theorem cx_newg (hexec : p.tables.exec = Jvm.exec) (hb : c.code = cc) {own : String} {index : Nat} (hown : s.vm.findClass own = some m.cls) (hclink : (Cond.classLink own index RX0).before args s = true) (hover : va_AO RX0 s) (hK : va_K D vwCl (tysT T) s) (hP : va_P D vwCl ws H) (hD : va_D A ws) (hS : va_S A H0 H locs) (hA : ∀ q, H0.size ≤ q → A q)
    {n : Int32} (N : Nat) (hn : ¬ n < 0) (hN : n.toNatClampNeg = N) (hbytes : N * 4 ≤ 536870912) (hcells : cells + 1 ≤ R.cells) (hslots : slots + N ≤ R.slots) (hdg : decode cc pc = .ok (.anewarray index, 3))
    (kk : ∀ (q : Nat) (H1 : Heap), va_P D vwCl (ws ++ [(q, .inl (T 3, N, .inr (.inr (.inr (.inr (fun _ => none))))))]) H1 → va_D A (ws ++ [(q, .inl (T 3, N, .inr (.inr (.inr (.inr (fun _ => none))))))]) → va_S A H0 H1 locs → W p l e R s m args below meth c H1 locs (cells + 1) (slots + N) Q (F0 m (pc + 3) ls (.ref q :: rest))) : W p l e R s m args below meth c H locs cells slots Q (F0 m pc ls (.int n :: rest)) := by
  refine va_newq hexec hb hown hclink hover hK hP hD hS hA hn hN hbytes hcells hslots hdg (fun q cA H1 hK1 hP1 hD1 hS1 => ?_)
  obtain ⟨k1, c1, a1, a2, a3, a4⟩ := (hK1.2 4 (cA, .object RX0) rfl).2
  obtain ⟨k2, c2, b1, b2, b3, b4⟩ := (hK.2 3 _ rfl).2
  have e : cA = T 3 := Option.some.inj (a4.symm.trans b4)
  subst e
  exact kk q H1 hP1 hD1 hS1
end
/-- before a constructor: the new object alone -/
def IP (D : va_G) (T : Nat → ClassId) (w0 : va_W) (sz : Nat) (U : State) : Prop := U.heap.size = sz ∧ va_P D vwCl w0 U.heap ∧ va_K D vwCl (tysT T) U ∧ NW U ∧ va_AO RX0 U ∧ va_D (fun _ => True) w0
theorem IP.blind {D : va_G} {T : Nat → ClassId} {w0 : va_W} {sz : Nat} {av : List Value} : FrameBlind (va_Pc av (IP D T w0 sz)) := fun a U g mk q => ⟨q.1, q.2.1, q.2.2.1, va_K.moved (u := U) (U := U.calling g mk a) (Vm.Alike.refl U.vm) q.2.2.2.1, NW.same (u := U) (U := U.calling g mk a) rfl q.2.2.2.2.1, va_AO.moved (u := U) (U := U.calling g mk a) (Vm.Alike.refl U.vm) q.2.2.2.2.2.1, q.2.2.2.2.2.2⟩
theorem IP.pre {D : va_G} {T : Nat → ClassId} {w0 : va_W} {s : State} {H : Heap} {A : Nat → Prop} (hP : va_P D vwCl w0 H) (hD : va_D A w0) (hK : va_K D vwCl (tysT T) s) (hN : NW s) (hAO : va_AO RX0 s) {av : List Value} {v : Array Value} (hv : v = av.toArray) : ∀ U : State, U.heap = H → s.WarmedH U.vm → va_Pc av (IP D T w0 H.size) v U := fun U hU hW => ⟨hv, by rw [hU], by rw [hU]; exact hP, va_K.moved hW.alike hK, NW.warm hW hN, va_AO.moved hW.alike hAO, hD.weaken (fun _ _ _ _ => trivial)⟩
theorem wd_at {ws : va_W} {n k : Nat} (hl : ws.length = n) (hk : k < n) : ∃ q, ws[k]? = some q := ⟨_, List.getElem?_eq_getElem (by omega)⟩
theorem cw_AD {A : Nat → Prop} {T : Nat → ClassId} {ad : Nat → Nat} {I : Nat → Int32} {R : Nat → Nat → Int32} (hD : va_D A (cw T ad I R)) : AD 34 ad ∧ ∀ k, k < 34 → A (ad k) := by
  refine ⟨fun i j hi hj e => ?_, fun k hk => ?_⟩
  · obtain ⟨p, hp⟩ := wd_at (cw_len (T := T) (ad := ad) (I := I) (R := R)) hi
    obtain ⟨q, hq⟩ := wd_at (cw_len (T := T) (ad := ad) (I := I) (R := R)) hj
    exact hD.1 i j p q hp hq (by rw [(cw_ad hp).2, (cw_ad hq).2]; exact e)
  · obtain ⟨p, hp⟩ := wd_at (cw_len (T := T) (ad := ad) (I := I) (R := R)) hk
    have h := hD.2 k p hp
    rw [(cw_ad hp).2] at h; exact h


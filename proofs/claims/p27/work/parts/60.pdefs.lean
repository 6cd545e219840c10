/-! the law's worlds and what its methods share -/
theorem AD_le {n k : Nat} {ad : Nat → Nat} (h : AD n ad) (hk : k ≤ n) : AD k ad := fun i j hi hj e => h i j (Nat.lt_of_lt_of_le hi hk) (Nat.lt_of_lt_of_le hj hk) e
theorem AD_1 {x : Nat} : AD 1 (fun _ => x) := fun i j hi hj _ => by omega
theorem cA_sub {k a : Nat} {ad : Nat → Nat} {A : Nat → Prop} (h1 : ∀ j, j < k → A (ad j)) (h2 : ∀ q, a ≤ q → A q) : ∀ q, cA k ad a q → A q := fun q h => by
  rcases h with ⟨j, hj, e⟩ | h
  · rw [e]; exact h1 j hj
  · exact h2 q h
/-- a method with a table of handlers that returns -/
theorem metH_ofW {l : Launch} {y : MethodName} {ws ws' : List Cond} {rm : Room} {Pc : Array Value → State → Prop} {Qc : Array Value → State → Outcome → State → Prop} {mc ms : Nat} {free : Addr → Prop} {cc : ByteArray} {maxL : Nat} {ret : Option FieldType} {hh : List (Nat × Nat × Nat × Nat)}
    (hy : plainName y.cls = true) (hw : ws = Cond.codeWith y cc maxL ret hh :: ws')
    (body : ∀ p e s m args below meth c s₁, BodyLoose p l y (headSpec ws rm) cc maxL ret e s m args below meth c s₁ → c.maxLocals = maxL → Pc args s →
      W p l e (headSpec ws rm).room s m args below meth c s.heap [] 0 0 (MQ below Qc args s mc ms free) (entryFrame m args maxL)) : Met l y ws rm Pc Qc mc ms free := by
  refine MetFree.of_bodyS (code := cc) (maxLocals := maxL) (ret := ret) hy ?_ ?_
  · intro args s m h hn
    obtain ⟨m9, meth, c, hn9, h1, h2, h3, h4, -, h5, h6, -⟩ := Cond.codeWith_spec (atoms_spec (ws := ws) h _ (by rw [hw]; exact List.mem_cons_self))
    cases hn.symm.trans hn9
    exact ⟨meth, c, h1, h2, h3, h4, h5, h6⟩
  · intro p e s m args below meth c s₁ B hml hP _
    have hh0 : s₁.heap = s.heap := by rw [B.state]; rfl
    obtain ⟨t, a1, o, b1, b2, b3⟩ := body p e s m args below meth c s₁ B hml hP s₁ hh0 (Stand.of_body B)
    exact ⟨t, o, a1, b1, b2, ⟨b3.1, b3.2⟩⟩
/-- what a world keeps where nothing of it changes -/
theorem wd_kept {D : va_G} {cl : List vw_C} {ws : va_W} {H H1 : Heap} {A : Nat → Prop} (hP : va_P D cl ws H) (hk : ∀ q : Nat, q < H.size → ¬ A q → H1[q]? = H[q]?) (hA : ∀ (k : Nat) (q : Nat × va_E), ws[k]? = some q → q.1 < H.size → ¬ A q.1) : va_P D cl ws H1 := hP.kept fun k q hq => hk q.1 (hP k q hq).lt (hA k q hq (hP k q hq).lt)
section
variable {p : Program} {l : Launch} {e : Env} {R0 : Room} {s : State} {m : MethodId} {args : Array Value} {below : List Frame} {meth : Method} {c : Code} {H : Heap} {locs : List Loc} {cells slots : Nat} {Q : State → Prop}
variable {mc ms : Nat} {A0 : Nat → Prop} {H0 : Heap} {a : Array Value} {pc : Nat} {ls : Array Slot} {st0 rest : List Value} {cc : ByteArray}
/-- behind a call that only makes new things -/
theorem cx_rm {F : Int32} (hr : va_Run p l e R0 s m args below meth c H locs cells slots mc ms (F0 m pc ls st0) rest (RqI F a) (fun _ => False)) (hS : va_S A0 H0 H locs)
    (kk : ∀ (H1 : Heap) (locs1 : List Loc), (∀ q : Nat, q < H.size → ¬ False → H1[q]? = H[q]?) → va_S A0 H0 H1 locs1 → W p l e R0 s m args below meth c H1 locs1 (cells + mc) (slots + ms) Q (F0 m (pc + 3) ls (.int F :: rest))) : W p l e R0 s m args below meth c H locs cells slots Q (F0 m pc ls st0) :=
  va_calli hr hS (fun _ _ h => h.elim) (fun _ h => h.elim) (fun r _ t H1 locs1 _ _ hw _ _ hk hS1 => by
    have e : r = F := hw
    subst e
    exact kk H1 locs1 hk hS1)
end
/-- classes of exceptions that aren't each other's -/
def NcP (U : State) : Prop := va_Nc "java/lang/IllegalArgumentException" "java/lang/IndexOutOfBoundsException" U ∧ va_Nc "java/lang/IllegalStateException" "java/lang/IllegalArgumentException" U
def XN (D : va_G) (T : Nat → ClassId) (ad : Nat → Nat) (I : Nat → Int32) (R : Nat → Nat → Int32) (U : State) : Prop := XR D T ad I R U ∧ NcP U
theorem XN.blind {D : va_G} {T : Nat → ClassId} {ad : Nat → Nat} {I : Nat → Int32} {R : Nat → Nat → Int32} {av : List Value} : FrameBlind (va_Pc av (XN D T ad I R)) := fun a U g mk q => ⟨q.1, (XR.blind (av := av) a U g mk ⟨q.1, q.2.1⟩).2, ⟨va_Nc.moved (u := U) (U := U.calling g mk a) (Vm.Alike.refl U.vm) q.2.2.1, va_Nc.moved (u := U) (U := U.calling g mk a) (Vm.Alike.refl U.vm) q.2.2.2⟩⟩
theorem XN.pre {D : va_G} {T : Nat → ClassId} {ad : Nat → Nat} {I : Nat → Int32} {R : Nat → Nat → Int32} {A : Nat → Prop} {s : State} {H : Heap} {locs : List Loc} (hP : va_P D vwCl (cw T ad I R) H) (hK : va_K D vwCl (tysT T) s) (hN : NW s) (hXU : XU s) (hXZ : XZ A s s.heap) (hNc : NcP s) (hS : va_S A s.heap H locs) {av : List Value} {v : Array Value} (hv : v = av.toArray) : ∀ U : State, U.heap = H → s.WarmedH U.vm → va_Pc av (XN D T ad I R) v U := fun U hU hW =>
  ⟨hv, (XR.pre hP hK hN hXU hXZ hS (av := av) hv U hU hW).2, ⟨va_Nc.moved hW.alike hNc.1, va_Nc.moved hW.alike hNc.2⟩⟩

/-- a new row -/
def adq (ad : Nat → Nat) (q : Nat) : Nat → Nat := fun k => if k < 39 then ad k else q
def mixR (R1 R : Nat → Nat → Int32) : Nat → Nat → Int32 := fun k => if k < 20 then R1 k else R k
section
variable {D : va_G} {cl : List vw_C} {A : Nat → Prop} {T : Nat → ClassId} {ad : Nat → Nat} {I I1 : Nat → Int32} {R R1 : Nat → Nat → Int32} {H H1 : Heap} {x k n : Nat} {f g u : Nat → Int32} {ws w1 : va_W} {cA9 : ClassId}
def l5 (T : Nat → ClassId) (ad : Nat → Nat) (R : Nat → Nat → Int32) : va_W := [(ad 34, .inl (T 1, 8, .inl (R 20))), (ad 35, .inl (T 1, 8, .inl (R 21))), (ad 36, .inl (T 1, 8, .inl (R 22))), (ad 37, .inl (T 1, 8, .inl (R 23))), (ad 38, .inl (T 1, 1, .inl (R 24)))]
def l6 (T : Nat → ClassId) (ad : Nat → Nat) (R : Nat → Nat → Int32) : va_W := [(ad 34, .inl (T 1, 8, .inl (R 20))), (ad 35, .inl (T 1, 8, .inl (R 21))), (ad 36, .inl (T 1, 8, .inl (R 22))), (ad 37, .inl (T 1, 8, .inl (R 23))), (ad 38, .inl (T 1, 1, .inl (R 24))), (ad 39, .inl (T 1, 8, .inl (R 25)))]
theorem l5_ad {k : Nat} {q : Nat × va_E} (h : (l5 T ad R)[k]? = some q) : k < 5 ∧ q.1 = ad (34 + k) := by
  match k, h with
  | 0, h => cases h; exact ⟨by decide, rfl⟩
  | 1, h => cases h; exact ⟨by decide, rfl⟩
  | 2, h => cases h; exact ⟨by decide, rfl⟩
  | 3, h => cases h; exact ⟨by decide, rfl⟩
  | 4, h => cases h; exact ⟨by decide, rfl⟩
  | k + 5, h => simp [l5] at h
theorem l6_ad {k : Nat} {q : Nat × va_E} (h : (l6 T ad R)[k]? = some q) : k < 6 ∧ q.1 = ad (34 + k) := by
  match k, h with
  | 0, h => cases h; exact ⟨by decide, rfl⟩
  | 1, h => cases h; exact ⟨by decide, rfl⟩
  | 2, h => cases h; exact ⟨by decide, rfl⟩
  | 3, h => cases h; exact ⟨by decide, rfl⟩
  | 4, h => cases h; exact ⟨by decide, rfl⟩
  | 5, h => cases h; exact ⟨by decide, rfl⟩
  | k + 6, h => simp [l6] at h
theorem pw_c (h : va_P D vwCl (pw T ad I R) H) : va_P D vwCl (cw T ad I R) H := h.sub (List.range 34) rfl
theorem qw_c (h : va_P D vwCl (qw T ad I R) H) : va_P D vwCl (cw T ad I R) H := h.sub (List.range 34) rfl
theorem pw_l5 (h : va_P D vwCl (pw T ad I R) H) : va_P D vwCl (l5 T ad R) H := h.sub [34, 35, 36, 37, 38] rfl
theorem qw_l6 (h : va_P D vwCl (qw T ad I R) H) : va_P D vwCl (l6 T ad R) H := h.sub [34, 35, 36, 37, 38, 39] rfl
theorem pw_of (h : va_P D vwCl (cw T ad I R) H) (h5 : va_P D vwCl (l5 T ad R) H) : va_P D vwCl (pw T ad I R) H := h.app h5
theorem qw_of6 (h : va_P D vwCl (cw T ad I R) H) (h5 : va_P D vwCl (l6 T ad R) H) : va_P D vwCl (qw T ad I R) H := h.app h5
theorem l5_kept (hAD : AD 39 ad) (h5 : va_P D vwCl (l5 T ad R) H) (hk : ∀ q : Nat, q < H.size → ¬ cA 34 ad H.size q → H1[q]? = H[q]?) : va_P D vwCl (l5 T ad R) H1 := wd_kept h5 hk fun k q hq hl h => by
  obtain ⟨k5, e⟩ := l5_ad hq
  rw [e] at hl h
  rcases h with ⟨j, hj, e2⟩ | h
  · have := hAD _ _ (by omega) (by omega) e2; omega
  · omega
theorem l6_kept (hAD : AD 40 ad) (h5 : va_P D vwCl (l6 T ad R) H) (hk : ∀ q : Nat, q < H.size → ¬ cA 34 ad H.size q → H1[q]? = H[q]?) : va_P D vwCl (l6 T ad R) H1 := wd_kept h5 hk fun k q hq hl h => by
  obtain ⟨k5, e⟩ := l6_ad hq
  rw [e] at hl h
  rcases h with ⟨j, hj, e2⟩ | h
  · have := hAD _ _ (by omega) (by omega) e2; omega
  · omega
theorem cw_mix : cw T ad I (mixR R1 R) = cw T ad I R1 := rfl
theorem l5_mix : l5 T ad (mixR R1 R) = l5 T ad R := rfl
theorem l6_mix : l6 T ad (mixR R1 R) = l6 T ad R := rfl
theorem cw_u19 : cw T ad I (updR (mixR R1 R) 19 u) = cw T ad I (updR R1 19 u) := rfl
/-- behind a call of the class: the law's rows are as they were -/
theorem pw_join (hAD : AD 39 ad) (hP : va_P D vwCl (pw T ad I R) H) (hk : ∀ q : Nat, q < H.size → ¬ cA 34 ad H.size q → H1[q]? = H[q]?) (hP1 : va_P D vwCl (cw T ad I1 R1) H1) : va_P D vwCl (pw T ad I1 (mixR R1 R)) H1 :=
  pw_of (by rw [cw_mix]; exact hP1) (by rw [l5_mix]; exact l5_kept hAD (pw_l5 hP) hk)
theorem qw_join (hAD : AD 40 ad) (hP : va_P D vwCl (qw T ad I R) H) (hk : ∀ q : Nat, q < H.size → ¬ cA 34 ad H.size q → H1[q]? = H[q]?) (hP1 : va_P D vwCl (cw T ad I1 R1) H1) : va_P D vwCl (qw T ad I1 (mixR R1 R)) H1 :=
  qw_of6 (by rw [cw_mix]; exact hP1) (by rw [l6_mix]; exact l6_kept hAD (qw_l6 hP) hk)
theorem l5_u19 : l5 T ad (updR R 19 u) = l5 T ad R := rfl
theorem pw_join19 (hAD : AD 39 ad) (hP : va_P D vwCl (pw T ad I R) H) (hk : ∀ q : Nat, q < H.size → ¬ cA 34 ad H.size q → H1[q]? = H[q]?) (hP1 : va_P D vwCl (cw T ad I1 (updR R 19 u)) H1) : va_P D vwCl (pw T ad I1 (updR R 19 u)) H1 :=
  pw_of hP1 (by rw [l5_u19]; exact l5_kept hAD (pw_l5 hP) hk)
theorem adq_lt {k : Nat} (h : k < 39) : adq ad x k = ad k := if_pos h
theorem qw_new (h : va_P D vwCl (pw T ad I R ++ [(x, .inl (T 1, 8, .inl f))]) H) : va_P D vwCl (qw T (adq ad x) I (updR R 25 f)) H := by
  have h1 := cx_req (k := 4) (g := fun j => some (adq ad x (28 + 3 * j))) h rfl (fun j hj => by rw [adq_lt (by omega)]) rfl
  have h2 := cx_req (k := 6) (g := fun j => some (adq ad x (10 + 3 * j))) h1 rfl (fun j hj => by rw [adq_lt (by omega)]) rfl
  exact h2
theorem qw_newD (h : va_D A (pw T ad I R ++ [(x, .inl (T 1, 8, .inl f))])) : va_D A (qw T (adq ad x) I (updR R 25 f)) :=
  (h.set (p := 4) (e := .inl (T 3, 2, .inr (.inr (.inr (.inr (fun j => some (adq ad x (28 + 3 * j)))))))) rfl).set (p := 6) (e := .inl (T 3, 6, .inr (.inr (.inr (.inr (fun j => some (adq ad x (10 + 3 * j)))))))) rfl
theorem wn_at {ws : va_W} {n k : Nat} (hl : ws.length = n) (hk : k < n) : ∃ q, ws[k]? = some q := ⟨_, List.getElem?_eq_getElem (by omega)⟩
theorem qw_AD (hD : va_D A (qw T ad I R)) : AD 40 ad ∧ ∀ k, k < 40 → A (ad k) := by
  refine ⟨fun i j hi hj e => ?_, fun k hk => ?_⟩
  · obtain ⟨p, hp⟩ := wn_at (qw_len (T := T) (ad := ad) (I := I) (R := R)) hi
    obtain ⟨q, hq⟩ := wn_at (qw_len (T := T) (ad := ad) (I := I) (R := R)) hj
    exact hD.1 i j p q hp hq (by rw [(qw_ad hp).2, (qw_ad hq).2]; exact e)
  · obtain ⟨p, hp⟩ := wn_at (qw_len (T := T) (ad := ad) (I := I) (R := R)) hk
    have h := hD.2 k p hp
    rw [(qw_ad hp).2] at h; exact h
theorem pw_AD (hD : va_D A (pw T ad I R)) : AD 39 ad ∧ ∀ k, k < 39 → A (ad k) := by
  refine ⟨fun i j hi hj e => ?_, fun k hk => ?_⟩
  · obtain ⟨p, hp⟩ := wn_at (pw_len (T := T) (ad := ad) (I := I) (R := R)) hi
    obtain ⟨q, hq⟩ := wn_at (pw_len (T := T) (ad := ad) (I := I) (R := R)) hj
    exact hD.1 i j p q hp hq (by rw [(pw_ad hp).2, (pw_ad hq).2]; exact e)
  · obtain ⟨p, hp⟩ := wn_at (pw_len (T := T) (ad := ad) (I := I) (R := R)) hk
    have h := hD.2 k p hp
    rw [(pw_ad hp).2] at h; exact h
theorem qw_pw0 (h : va_P D vwCl (qw T (adq ad x) I R) H) : va_P D vwCl (pw T ad I R) H := by
  have h0 := h.sub (ws' := pw T (adq ad x) I R) (List.range 39) rfl
  have h1 := cx_req (k := 4) (g := fun j => some (ad (28 + 3 * j))) h0 rfl (fun j hj => by rw [adq_lt (by omega)]) rfl
  have h2 := cx_req (k := 6) (g := fun j => some (ad (10 + 3 * j))) h1 rfl (fun j hj => by rw [adq_lt (by omega)]) rfl
  exact h2
theorem pw_u25 : pw T ad I (updR R 25 f) = pw T ad I R := rfl
theorem qw_pw (h : va_P D vwCl (qw T (adq ad x) I (updR R 25 f)) H) : va_P D vwCl (pw T ad I R) H := by
  have h := qw_pw0 h
  rw [pw_u25] at h; exact h
theorem updP (h : va_P D vwCl (pw T ad I (updR (updR R k f) k g)) H) : va_P D vwCl (pw T ad I (updR R k g)) H := by rw [updR_upd] at h; exact h
theorem updQ (h : va_P D vwCl (qw T ad I (updR (updR R k f) k g)) H) : va_P D vwCl (qw T ad I (updR R k g)) H := by rw [updR_upd] at h; exact h
theorem updH (h : va_P D vwCl (hw T ad I (updR (updR R k f) k g)) H) : va_P D vwCl (hw T ad I (updR R k g)) H := by rw [updR_upd] at h; exact h
theorem selfP (h : va_P D vwCl (pw T ad I R) H) : va_P D vwCl (pw T ad I (updR R k (R k))) H := by rw [updR_self]; exact h
theorem selfH (h : va_P D vwCl (hw T ad I R) H) : va_P D vwCl (hw T ad I (updR R k (R k))) H := by rw [updR_self]; exact h
theorem updR_comm {a b : Nat} (hab : a ≠ b) : updR (updR R a f) b g = updR (updR R b g) a f := funext fun j => by
  unfold updR
  by_cases h1 : j = b
  · rw [if_pos h1, if_neg (by omega), if_pos h1]
  · rw [if_neg h1]
    by_cases h2 : j = a
    · rw [if_pos h2, if_pos h2]
    · rw [if_neg h2, if_neg h2, if_neg h1]
/-- a row of a world alone -/
theorem hw_of (hP : va_P D cl ws H) (ha : ws[k]? = some (x, .inl (T 1, 8, .inl f))) : va_P D cl (hw T (fun _ => x) I (fun _ => f)) H := hP.sub [k] (by simp [ha, hw])
theorem hw_join (hP : va_P D cl ws H) (hD : va_D A ws) (ha : ws[k]? = some (x, .inl (T 1, 8, .inl f))) (hk : ∀ q : Nat, q < H.size → ¬ cA 1 (fun _ => x) H.size q → H1[q]? = H[q]?) (hP1 : va_P D cl (hw T (fun _ => x) I (updR (fun _ => f) 0 u)) H1) (hfg : ∀ j, j < 8 → u j = g j) (hset : ws.set k (x, .inl (T 1, 8, .inl g)) = w1) : va_P D cl w1 H1 := by
  subst hset
  intro i q hq
  rw [List.getElem?_set] at hq
  split at hq
  · rename_i h
    subst h
    split at hq
    · cases hq
      have h1 := hP1 0 (x, .inl (T 1, 8, .inl u)) rfl
      show H1[x]? = some (vp_cell (T 1) (8, .inl g))
      rw [← cell_congr hfg]
      exact h1
    · cases hq
  · rename_i h
    have h1 := hP i q hq
    refine h1.kept (hk q.1 h1.lt (fun h2 => ?_))
    rcases h2 with ⟨j, hj, e⟩ | h2
    · exact h (hD.1 k i _ q ha hq e.symm)
    · exact Nat.lt_irrefl _ (Nat.lt_of_lt_of_le h1.lt h2)
end
def PB (D : va_G) (T : Nat → ClassId) (ad : Nat → Nat) (I : Nat → Int32) (R : Nat → Nat → Int32) (sz : Nat) (U : State) : Prop := U.heap.size = sz ∧ va_P D vwCl (pw T ad I R) U.heap ∧ va_K D vwCl (tysT T) U ∧ NW U ∧ XU U ∧ XZ (cA 39 ad sz) U U.heap ∧ NcP U
theorem PB.blind {D : va_G} {T : Nat → ClassId} {ad : Nat → Nat} {I : Nat → Int32} {R : Nat → Nat → Int32} {sz : Nat} {av : List Value} : FrameBlind (va_Pc av (PB D T ad I R sz)) := fun a U g mk q => ⟨q.1, q.2.1, q.2.2.1, va_K.moved (u := U) (U := U.calling g mk a) (Vm.Alike.refl U.vm) q.2.2.2.1, NW.same (u := U) (U := U.calling g mk a) rfl q.2.2.2.2.1, XU.same (u := U) (U := U.calling g mk a) rfl q.2.2.2.2.2.1, ⟨vx_Zq.moved (u := U) (U := U.calling g mk a) (Vm.Alike.refl U.vm) q.2.2.2.2.2.2.1.1, vx_Zq.moved (u := U) (U := U.calling g mk a) (Vm.Alike.refl U.vm) q.2.2.2.2.2.2.1.2⟩, ⟨va_Nc.moved (u := U) (U := U.calling g mk a) (Vm.Alike.refl U.vm) q.2.2.2.2.2.2.2.1, va_Nc.moved (u := U) (U := U.calling g mk a) (Vm.Alike.refl U.vm) q.2.2.2.2.2.2.2.2⟩⟩
theorem PB.pre {D : va_G} {T : Nat → ClassId} {ad : Nat → Nat} {I : Nat → Int32} {R : Nat → Nat → Int32} {A : Nat → Prop} {s : State} {H : Heap} {locs : List Loc} (hP : va_P D vwCl (pw T ad I R) H) (hK : va_K D vwCl (tysT T) s) (hN : NW s) (hXU : XU s) (hXZ : XZ A s s.heap) (hNc : NcP s) (hS : va_S A s.heap H locs) (hsub : ∀ q, cA 39 ad H.size q → A q) {av : List Value} {v : Array Value} (hv : v = av.toArray) : ∀ U : State, U.heap = H → s.WarmedH U.vm → va_Pc av (PB D T ad I R H.size) v U := fun U hU hW =>
  ⟨hv, by rw [hU], by rw [hU]; exact hP, va_K.moved hW.alike hK, NW.warm hW hN, XU.warm hW hXU, by rw [hU]; exact ⟨vx_Zq.moved hW.alike ((hXZ.1.kept hS.2.1).narrow hsub), vx_Zq.moved hW.alike ((hXZ.2.kept hS.2.1).narrow hsub)⟩, ⟨va_Nc.moved hW.alike hNc.1, va_Nc.moved hW.alike hNc.2⟩⟩
def YR (D : va_G) (T : Nat → ClassId) (ad : Nat → Nat) (I : Nat → Int32) (R : Nat → Nat → Int32) (U : State) : Prop := va_P D vwCl (hw T ad I R) U.heap ∧ va_K D vwCl (tysT T) U
def YB (D : va_G) (T : Nat → ClassId) (ad : Nat → Nat) (I : Nat → Int32) (R : Nat → Nat → Int32) (sz : Nat) (U : State) : Prop := U.heap.size = sz ∧ YR D T ad I R U
theorem YR.blind {D : va_G} {T : Nat → ClassId} {ad : Nat → Nat} {I : Nat → Int32} {R : Nat → Nat → Int32} {av : List Value} : FrameBlind (va_Pc av (YR D T ad I R)) := fun a U g mk q => ⟨q.1, q.2.1, va_K.moved (u := U) (U := U.calling g mk a) (Vm.Alike.refl U.vm) q.2.2⟩
theorem YB.blind {D : va_G} {T : Nat → ClassId} {ad : Nat → Nat} {I : Nat → Int32} {R : Nat → Nat → Int32} {sz : Nat} {av : List Value} : FrameBlind (va_Pc av (YB D T ad I R sz)) := fun a U g mk q => ⟨q.1, q.2.1, q.2.2.1, va_K.moved (u := U) (U := U.calling g mk a) (Vm.Alike.refl U.vm) q.2.2.2⟩
theorem YR.pre {D : va_G} {T : Nat → ClassId} {ad : Nat → Nat} {I : Nat → Int32} {R : Nat → Nat → Int32} {s : State} {H : Heap} (hP : va_P D vwCl (hw T ad I R) H) (hK : va_K D vwCl (tysT T) s) {av : List Value} {v : Array Value} (hv : v = av.toArray) : ∀ U : State, U.heap = H → s.WarmedH U.vm → va_Pc av (YR D T ad I R) v U := fun U hU hW => ⟨hv, by rw [hU]; exact hP, va_K.moved hW.alike hK⟩
theorem YB.pre {D : va_G} {T : Nat → ClassId} {ad : Nat → Nat} {I : Nat → Int32} {R : Nat → Nat → Int32} {s : State} {H : Heap} (hP : va_P D vwCl (hw T ad I R) H) (hK : va_K D vwCl (tysT T) s) {av : List Value} {v : Array Value} (hv : v = av.toArray) : ∀ U : State, U.heap = H → s.WarmedH U.vm → va_Pc av (YB D T ad I R H.size) v U := fun U hU hW => ⟨hv, by rw [hU], by rw [hU]; exact hP, va_K.moved hW.alike hK⟩

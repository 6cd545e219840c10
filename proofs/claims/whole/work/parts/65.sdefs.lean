/-! what the start gives: the classes, the arrays' classes, the words; both new objects alike -/
theorem st_zero : StP 0 0 0 0 0 (fun _ => 0) (fun _ _ => 0) (fun _ => 0) (fun _ _ => 0) := by
  have h0 : ∀ k, lbI 0 k = 0 := fun k => by unfold lbI; rw [Nat.zero_div]; rfl
  refine ⟨⟨rfl, ⟨by decide, fun k hk => (h0 k).symm⟩, rfl, fun _ _ => rfl, fun _ _ => rfl, fun k hk => ⟨show (-99 : Int) ≤ (0 : Int32).toInt by decide, show (0 : Int32).toInt ≤ 99 by decide⟩⟩, ⟨by decide, by decide, rfl, rfl, fun i hi => absurd hi (Nat.not_lt_zero i)⟩, rfl, ⟨by decide, rfl, fun j hj => ⟨(h0 j).symm, fun h => ?_⟩⟩, ⟨⟨by decide, fun i hi => absurd hi (Nat.not_lt_zero i)⟩, rfl, rfl, fun _ _ => rfl⟩⟩
  rw [h0 j] at h
  cases h
theorem nest_in : ∀ w ∈ nestW, w ∈ lw_tbl := by decide +kernel
theorem th_in : ∀ w ∈ thW, w ∈ lw_tbl := by decide +kernel
theorem sr_in : ∀ q ∈ stW, Cond.stringRef RX3 q.1 q.2 ∈ lw_tbl := by decide +kernel
theorem ar_of {s : State} {args : Array Value} {t : FieldType} (h : (Cond.arrayClass t).before args s = true) : ∃ c, ArrOfT s c t ∧ s.vm.findClass ("[" ++ t.toString) = some c := by
  obtain ⟨c, k, comp, h1, h2, h3⟩ := Cond.arrayClass_spec h
  exact ⟨c, fun n z => ⟨fun k h => (by cases h), k, h2, comp, h3⟩, h1⟩
theorem lw_K {s : State} {args : Array Value} (hts : ∀ w ∈ lw_tbl, w.before args s = true) : ∃ (D : va_G) (T : Nat → ClassId), va_K D vwCl (tysT T) s := by
  obtain ⟨c0, i0, h0⟩ := u_known (C := RX0) (T := TX0) (N := 4) (n := 4) hts inX0 (hts (.instantiable RX0 4) (by decide +kernel))
  obtain ⟨c1, i1, h1⟩ := u_known (C := RX1) (T := TX1) (N := 3) (n := 3) hts inX1 (hts (.instantiable RX1 3) (by decide +kernel))
  obtain ⟨c2, i2, h2⟩ := u_known (C := RX2) (T := TX2) (N := 2) (n := 2) hts inX2 (hts (.instantiable RX2 2) (by decide +kernel))
  obtain ⟨c3, i3, h3⟩ := u_known (C := RX3) (T := TX3) (N := 6) (n := 6) hts inX3 (hts (.instantiable RX3 6) (by decide +kernel))
  obtain ⟨c4, i4, h4⟩ := u_known (C := RX4) (T := TX4) (N := 12) (n := 12) hts inX4 (hts (.instantiable RX4 12) (by decide +kernel))
  obtain ⟨t0, a0, b0⟩ := ar_of (hts (.arrayClass .char) (by decide +kernel))
  obtain ⟨t1, a1, b1⟩ := ar_of (hts (.arrayClass .int) (by decide +kernel))
  obtain ⟨t2, a2, b2⟩ := ar_of (hts (.arrayClass .boolean) (by decide +kernel))
  obtain ⟨t4, a4, b4⟩ := ar_of (hts (.arrayClass .long) (by decide +kernel))
  obtain ⟨comp, t3, k3, f1, f2, f3, f4, f5⟩ := Cond.arrayOver_spec (hts (.arrayOver (.object RX0)) (by decide +kernel))
  refine ⟨(fun k => ([c0, c1, c2, c3, c4] : List ClassId).getD k 0, fun k => ([i0, i1, i2, i3, i4] : List (Nat → Nat)).getD k (fun _ => 0)), fun k => ([t0, t1, t2, t3, t4] : List ClassId).getD k 0, fun k q hq => ?_, fun k q hq => ?_⟩
  · match k, hq with
    | 0, hq => cases hq; exact h0
    | 1, hq => cases hq; exact h1
    | 2, hq => cases hq; exact h2
    | 3, hq => cases hq; exact h3
    | 4, hq => cases hq; exact h4
    | k + 5, hq => simp [vwCl] at hq
  · match k, hq with
    | 0, hq => cases hq; exact ⟨a0, b0⟩
    | 1, hq => cases hq; exact ⟨a1, b1⟩
    | 2, hq => cases hq; exact ⟨a2, b2⟩
    | 3, hq => cases hq; exact ⟨fun n z => ⟨fun k h => (by cases h), k3, f3, comp, f4⟩, k3, comp, f3, f4, f1, f5⟩
    | 4, hq => cases hq; exact ⟨a4, b4⟩
    | k + 5, hq => simp [tysT] at hq
theorem lw_NW {s : State} {args : Array Value} (hts : ∀ w ∈ lw_tbl, w.before args s = true) : NW s := fun w hw => va_Nw.of (NW.tab w hw) (hts w (nest_in w hw))
theorem lw_XU {s : State} {args : Array Value} (hts : ∀ w ∈ lw_tbl, w.before args s = true) : XU s := by
  obtain ⟨c3, k3, f1, -⟩ := Cond.instantiable_spec (hts (.instantiable RX3 6) (by decide +kernel))
  refine ⟨fun w hw => va_Nw.of (thW_tab w hw) (hts w (th_in w hw)), fun q hq => ?_⟩
  obtain ⟨k, cf, i, a, -, -, -, -, -, hev⟩ := Cond.stringRef_spec f1 (hts _ (sr_in q hq))
  exact ⟨a, vk_R.of (hts _ (sr_in q hq)) hev⟩
theorem lw_XZ {s : State} {args : Array Value} (hts : ∀ w ∈ lw_tbl, w.before args s = true) (hgv : (Jvm.Cond.and given_1 narrow_1).before args s = true) : XZ (LwA s) s s.heap := by
  have hg := flat_of_before _ hgv
  exact ⟨vx_Zqof (hts (.laysStatic Bundle.tN "UNASSIGNED_STACK" Bundle.steD) (by decide +kernel)) (hts (.initialized Bundle.tN) (by decide +kernel)) (hg (.isRef (.static Bundle.tN "UNASSIGNED_STACK" Bundle.steD)) (by decide +kernel)) (fun a ha => Nat.not_le.mpr ha),
    vx_Zqof (hts (.laysStatic Bundle.tN "SUPPRESSED_SENTINEL" Bundle.listD) (by decide +kernel)) (hts (.initialized Bundle.tN) (by decide +kernel)) (hg (.isRef (.static Bundle.tN "SUPPRESSED_SENTINEL" Bundle.listD)) (by decide +kernel)) (fun a ha => Nat.not_le.mpr ha)⟩
theorem lw_Nc {s : State} {args : Array Value} (hgv : (Jvm.Cond.and given_1 narrow_1).before args s = true) : NcP s := by
  have hg := flat_of_before _ hgv
  exact ⟨va_Nc.of (hg (.not (.castable "java/lang/IllegalArgumentException" "java/lang/IndexOutOfBoundsException")) (by decide +kernel)), va_Nc.of (hg (.not (.castable "java/lang/IllegalStateException" "java/lang/IllegalArgumentException")) (by decide +kernel))⟩
theorem lw_lt {l : Launch} (h : l.flags = flags0) : l.stackTraces = false := by
  show (!l.flags.contains Jvm.noTraceFlag) = false
  rw [h]
  decide +kernel
/-- the three worlds are apart -/
theorem lw_apart {A : Nat → Prop} {T : Nat → ClassId} {ad ad2 : Nat → Nat} {ao : Nat} {I I2 : Nat → Int32} {R R2 : Nat → Nat → Int32} {g : Nat → Int64} (hD : va_D A ((cw T ad I R ++ mw T ad2 I2 R2) ++ ow T ao g)) :
    (∀ i j, i < 34 → j < 7 → ad i ≠ ad2 j) ∧ (∀ k, k < 34 → ad k ≠ ao) ∧ (∀ j, j < 7 → ad2 j ≠ ao) ∧ A ao := by
  have lc := cw_len (T := T) (ad := ad) (I := I) (R := R)
  have lm := mw_len (T := T) (ad := ad2) (I := I2) (R := R2)
  have gc : ∀ i, i < 34 → ∃ p, ((cw T ad I R ++ mw T ad2 I2 R2) ++ ow T ao g)[i]? = some p ∧ p.1 = ad i := fun i hi => by
    obtain ⟨p, hp⟩ := wd_at lc hi
    refine ⟨p, ?_, (cw_ad hp).2⟩
    rw [List.getElem?_append_left (by rw [List.length_append]; omega), List.getElem?_append_left (by omega)]
    exact hp
  have gm : ∀ j, j < 7 → ∃ p, ((cw T ad I R ++ mw T ad2 I2 R2) ++ ow T ao g)[34 + j]? = some p ∧ p.1 = ad2 j := fun j hj => by
    obtain ⟨p, hp⟩ := wd_at lm hj
    refine ⟨p, ?_, (mw_ad hp).2⟩
    rw [List.getElem?_append_left (by rw [List.length_append]; omega), List.getElem?_append_right (by omega), lc, show 34 + j - 34 = j by omega]
    exact hp
  have go : ((cw T ad I R ++ mw T ad2 I2 R2) ++ ow T ao g)[41]? = some (ao, .inl (T 4, 1, .inr (.inl g))) := rfl
  refine ⟨fun i j hi hj h => ?_, fun k hk h => ?_, fun j hj h => ?_, hD.2 41 _ go⟩
  · obtain ⟨p, hp, e1⟩ := gc i hi
    obtain ⟨q, hq, e2⟩ := gm j hj
    have := hD.1 i (34 + j) p q hp hq (by rw [e1, e2]; exact h)
    omega
  · obtain ⟨p, hp, e1⟩ := gc k hk
    have := hD.1 k 41 p _ hp go (by rw [e1]; exact h)
    omega
  · obtain ⟨p, hp, e1⟩ := gm j hj
    have := hD.1 (34 + j) 41 p _ hp go (by rw [e1]; exact h)
    omega

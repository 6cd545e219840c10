/-! what a throw needs of the start: words of the tables, two statics, the texts -/
def thW : List Cond := [.declares ⟨"java/lang/RuntimeException", "<init>", "(Ljava/lang/String;)V"⟩, .declares ⟨"java/lang/Exception", "<init>", "(Ljava/lang/String;)V"⟩, .declares ⟨"java/lang/Throwable", "<init>", "(Ljava/lang/String;)V"⟩, .castable "java/lang/IndexOutOfBoundsException" "java/lang/IndexOutOfBoundsException", .castable "java/lang/IllegalArgumentException" "java/lang/IllegalArgumentException", .castable "java/lang/IllegalStateException" "java/lang/IllegalStateException"]
theorem thW_tab : ∀ w ∈ thW, w.onTables = true := by decide +kernel
def stW : List (Nat × String) := [(48, "there is no such wheel"), (59, "the amplitude is out of range"), (75, "by is out of range"), (81, "least is out of range"), (89, "there is no such point"), (91, "the number is out of range"), (160, "there is no saved state"), (165, "what is not 0 to 3"), (170, "what is not 0 or 1"), (175, "what is not 0 to 2"), (180, "what is not 0 to 8"), (193, "the error is out of range")]
def XU (U : State) : Prop := (∀ w ∈ thW, va_Nw w U) ∧ ∀ q ∈ stW, ∃ a, vk_R RX3 q.1 q.2 a U
def XZ (A : Nat → Prop) (U : State) (H : Heap) : Prop := vx_Zq Bundle.tN "UNASSIGNED_STACK" Bundle.steD A U H ∧ vx_Zq Bundle.tN "SUPPRESSED_SENTINEL" Bundle.listD A U H
theorem XU.same {u U : State} (h : u.vm = U.vm) (hX : XU u) : XU U := ⟨fun w hw => va_Nw.same (thW_tab w hw) h (hX.1 w hw), fun q hq => by
  obtain ⟨a, ha⟩ := hX.2 q hq
  exact ⟨a, vk_R.same h.symm ha⟩⟩
theorem XU.warm {s U : State} (hW : s.WarmedH U.vm) (hX : XU s) : XU U := ⟨fun w hw => by
  have h := hX.1 w hw
  simp only [thW, List.mem_cons, List.not_mem_nil, or_false] at hw
  rcases hw with rfl | rfl | rfl | rfl | rfl | rfl <;> first | exact va_Nw.warmD hW h | exact va_Nw.warmC hW h, fun q hq => by
  obtain ⟨a, ha⟩ := hX.2 q hq
  exact ⟨a, vk_R.warm hW ha⟩⟩
def XR (D : va_G) (T : Nat → ClassId) (ad : Nat → Nat) (I : Nat → Int32) (R : Nat → Nat → Int32) (U : State) : Prop := CR D T ad I R U ∧ XU U ∧ XZ (fun _ => False) U U.heap
theorem XR.blind {D : va_G} {T : Nat → ClassId} {ad : Nat → Nat} {I : Nat → Int32} {R : Nat → Nat → Int32} {av : List Value} : FrameBlind (va_Pc av (XR D T ad I R)) := fun a U g mk q =>
  ⟨q.1, ⟨q.2.1.1, va_K.moved (u := U) (U := U.calling g mk a) (Vm.Alike.refl U.vm) q.2.1.2.1, NW.same (u := U) (U := U.calling g mk a) rfl q.2.1.2.2⟩, XU.same (u := U) (U := U.calling g mk a) rfl q.2.2.1, ⟨vx_Zq.moved (u := U) (U := U.calling g mk a) (Vm.Alike.refl U.vm) q.2.2.2.1, vx_Zq.moved (u := U) (U := U.calling g mk a) (Vm.Alike.refl U.vm) q.2.2.2.2⟩⟩
theorem XZ.at {A : Nat → Prop} {s U : State} {H : Heap} {locs : List Loc} (h : XZ A s s.heap) (hS : va_S A s.heap H locs) (hW : s.WarmedH U.vm) : XZ (fun _ => False) U H := ⟨vx_Zq.moved hW.alike ((h.1.kept hS.2.1).narrow (fun _ h => h.elim)), vx_Zq.moved hW.alike ((h.2.kept hS.2.1).narrow (fun _ h => h.elim))⟩
theorem XR.pre {D : va_G} {T : Nat → ClassId} {ad : Nat → Nat} {I : Nat → Int32} {R : Nat → Nat → Int32} {A : Nat → Prop} {s : State} {H : Heap} {locs : List Loc} (hP : va_P D vwCl (cw T ad I R) H) (hK : va_K D vwCl (tysT T) s) (hN : NW s) (hXU : XU s) (hXZ : XZ A s s.heap) (hS : va_S A s.heap H locs) {av : List Value} {v : Array Value} (hv : v = av.toArray) : ∀ U : State, U.heap = H → s.WarmedH U.vm → va_Pc av (XR D T ad I R) v U := fun U hU hW =>
  ⟨hv, ⟨by rw [hU]; exact hP, va_K.moved hW.alike hK, NW.warm hW hN⟩, XU.warm hW hXU, by rw [hU]; exact hXZ.at hS hW⟩
/-- never returns; throws an object of the class E, and nothing old has changed -/
abbrev NoR : Array Value → State → Outcome → State → Prop := va_Qi (fun _ (_ : Unit) => False) (fun _ _ => True) (fun _ => False)
abbrev ThX (E : String) : String → State → State → Prop := vx_X (fun _ : Unit => True) (fun E9 _ _ => E9 = E) (fun _ => False)
theorem thx_of {E : String} {st t : State} (h : va_F (fun _ => False) st t) : ThX E E st t := Exists.intro () (And.intro trivial (And.intro rfl h))


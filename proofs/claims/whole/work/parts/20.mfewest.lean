set_option maxHeartbeats 4000000 in
set_option maxRecDepth 100000 in
theorem c_X4_fewest (l : Launch) (D : va_G) (T : Nat → ClassId) (ad : Nat → Nat) (I : Nat → Int32) (R : Nat → Nat → Int32) (sz : Nat) (x : Int32) (hAD : AD 7 ad) : Met l yX4_fewest wsX4_fewest ({ frames := 1, cells := 0, slots := 0, locals := 21 }) (va_Pc [.ref (ad 0), .int x] (MB D T ad I R sz)) (va_Qi (fun r (o : Nat → Int32) => r = (nI (fmF (R 0) x)) ∧ True) (fun (o : Nat → Int32) t => va_P D vwCl (mw T ad I (updR R 5 o)) t.heap) (cA 7 ad sz)) 0 0 (cA 7 ad sz) := by
  refine Met.ofW (cc := cX4_fewest) (maxL := 7) (ret := (some .int)) (by decide) rfl ?_
  intro p e s m args_ below meth c s₁ B hml hv
  obtain ⟨rfl, hsz, hP, hK⟩ := hv
  have hx := B.exec
  have hb := B.bytes
  have hr := B.returns
  have hts := atoms_spec (ws := wsX4_fewest) B.pre
  have hown : s.vm.findClass RX4 = some m.cls := findClass_of_methodNamed B.named
  have hlocks := B.notSynchronized
  have hinX4 : ∀ w ∈ u_ws RX4 TX4 12, w ∈ wsX4_fewest := by decide +kernel
  subst hsz
  have hS : va_S (cA 7 ad s.heap.size) s.heap s.heap [] := va_S.rf
  have hD : ∀ I R, va_D (cA 7 ad s.heap.size) (mw T ad I R) := fun I R => mw_D hAD (fun k hk => cA_in hk)
  have hl := lv_entry ([.ref (ad 0), .int x]) (n := 7) (Nat.le_of_ble_eq_true rfl)
  rw [lg_entry_eq]
  generalize (lg_sl ([.ref (ad 0), .int x]) ++ List.replicate (7 - (lg_sl ([.ref (ad 0), .int x])).length) Slot.unset).toArray = ls at hl ⊢
  have hl : lv_has ls 7 [(0, .ref (ad 0)), (1, .int x)] := hl
  refine lv_iconst (v := 0) hx hb dX4_fewest_0 (by decide) ?_
  refine lv_istore_n (lv' := [(2, .int (nI 0)), (0, .ref (ad 0)), (1, .int x)]) hx hb dX4_fewest_1 rfl hl (by decide) rfl (fun ls hl => ?_)
  refine lv_iconst (v := 0) hx hb dX4_fewest_2 (by decide) ?_
  refine lv_istore_n (lv' := [(3, .int 0), (2, .int (nI 0)), (0, .ref (ad 0)), (1, .int x)]) hx hb dX4_fewest_3 rfl hl (by decide) rfl (fun ls hl => ?_)
  suffices ih_4 : ∀ (fu : Nat) (i : Nat) (f : Nat → Int32) (my : Nat) (H : Heap) (locs : List Loc) (ls : Array Slot), 8 - i < fu → (i ≤ 8) → (∀ j, j < i → f j = oM (R 0) j) → (my = zc (oM (R 0)) i) → va_P D vwCl (mw T ad I (updR R 5 f)) H →  va_S (cA 7 ad s.heap.size) s.heap H locs → lv_has ls 7 [(0, .ref (ad 0)), (1, .int x), (2, .int (nI my)), (3, .int (nI i))] → W p l e (headSpec wsX4_fewest ({ frames := 1, cells := 0, slots := 0, locals := 21 })).room s m ([.ref (ad 0), .int x] : List Value).toArray below meth c H locs 0 0 (MQ below (va_Qi (fun r (o : Nat → Int32) => r = (nI (fmF (R 0) x)) ∧ True) (fun (o : Nat → Int32) t => va_P D vwCl (mw T ad I (updR R 5 o)) t.heap) (cA 7 ad s.heap.size)) ([.ref (ad 0), .int x] : List Value).toArray s 0 0 (cA 7 ad s.heap.size)) (F0 m 4 ls []) from
    ih_4 _ 0 (R 5) 0 _ _ _ (Nat.lt_succ_self _) (by omega) (fun j h => absurd h (Nat.not_lt_zero j)) (rfl) (m_self hP) hS (lv_sub hl [2, 3, 1, 0] rfl)
  intro fu
  induction fu with
  | zero => intro i f my H locs ls hfu; exact absurd hfu (Nat.not_lt_zero _)
  | succ fu ih_4 =>
    intro i f my H locs ls hfu hi hf hmy hP hS hl
    refine lv_iload_n hx hb dX4_fewest_4 rfl (lv_at hl 3 rfl) ?_
    refine lv_bipush (v := 8) hx hb dX4_fewest_5 (by decide) ?_
    refine lv_icmp_ge (tgt := 52) hx hb dX4_fewest_7 (by decide) (fun c_7 => ?_) (fun c_7 => ?_)
    · have c_7 : 8 ≤ i := (nI_leI (a := 8) (b := i) (by omega) (by omega)).mp c_7
      obtain rfl : i = 8 := by omega
      subst hmy
      have hP := m_fin5 (g := oM (R 0)) hP hf
      have hz8 := zc_le (oM (R 0)) 8
      refine lv_iload_n hx hb dX4_fewest_52 rfl (lv_at hl 1 rfl) ?_
      refine lv_istore_n (lv' := [(3, .int x), (0, .ref (ad 0)), (1, .int x), (2, .int (nI (zc (oM (R 0)) 8)))]) hx hb dX4_fewest_53 rfl hl (by decide) rfl (fun ls hl => ?_)
      refine lv_iload_n hx hb dX4_fewest_54 rfl (lv_at hl 3 rfl) ?_
      refine lv_if_le (tgt := 62) hx hb dX4_fewest_55 (by decide) (fun c_55 => ?_) (fun c_55 => ?_)
      · have c_55 : (zc (oM (R 0)) 8) ≤ 0 := (nI_leI (a := (zc (oM (R 0)) 8)) (b := 0) (by omega) (by omega)).mp c_55
        refine lv_iconst (v := 0) hx hb dX4_fewest_62 (by decide) ?_
        refine lv_istore (lv' := [(4, .int (nI 0)), (3, .int x), (0, .ref (ad 0)), (1, .int x), (2, .int (nI (zc (oM (R 0)) 8)))]) hx hb dX4_fewest_63 hl (by decide) rfl (fun ls hl => ?_)
        suffices ih_65 : ∀ (fu : Nat) (n : Nat) (o : Nat → Int32) (left : Int32) (my : Nat) (g : Nat) (H : Heap) (locs : List Loc) (ls : Array Slot), g * (1 + my) < fu → (g ≤ 1) → (my ≤ 8) → (fmF (R 0) x = if g = 0 then my else fmR (R 0) n o left my) → (g = 1 → my = zc o 8 ∧ 0 < my ∧ my ≤ n) → va_P D vwCl (mw T ad I (updR R 5 o)) H →  va_S (cA 7 ad s.heap.size) s.heap H locs → lv_has ls 7 [(0, .ref (ad 0)), (1, .int x), (2, .int (nI my)), (3, .int left), (4, .int (nI g))] → W p l e (headSpec wsX4_fewest ({ frames := 1, cells := 0, slots := 0, locals := 21 })).room s m ([.ref (ad 0), .int x] : List Value).toArray below meth c H locs 0 0 (MQ below (va_Qi (fun r (o : Nat → Int32) => r = (nI (fmF (R 0) x)) ∧ True) (fun (o : Nat → Int32) t => va_P D vwCl (mw T ad I (updR R 5 o)) t.heap) (cA 7 ad s.heap.size)) ([.ref (ad 0), .int x] : List Value).toArray s 0 0 (cA 7 ad s.heap.size)) (F0 m 65 ls []) from
          ih_65 _ 8 (oM (R 0)) x (zc (oM (R 0)) 8) 0 _ _ _ (Nat.lt_succ_self _) (by omega) (zc_le _ 8) (by rw [if_pos rfl]; exact if_pos c_55) (fun h => absurd h (by decide)) hP hS (lv_sub hl [2, 3, 4, 1, 0] rfl)
        intro fu
        induction fu with
        | zero => intro n o left my g H locs ls hfu; exact absurd hfu (Nat.not_lt_zero _)
        | succ fu ih_65 =>
          intro n o left my g H locs ls hfu hg1 hmy8 hF hg hP hS hl
          refine lv_iload hx hb dX4_fewest_65 (lv_at hl 4 rfl) ?_
          refine lv_if_eq (tgt := 208) hx hb dX4_fewest_67 (by decide) (fun c_67 => ?_) (fun c_67 => ?_)
          · have c_67 : g = 0 := (nI_eq (a := g) (b := 0) (by omega) (by omega)).mp c_67
            refine lv_iload_n hx hb dX4_fewest_208 rfl (lv_at hl 2 rfl) ?_
            exact W.iret (v := (nI my)) hx hb hr (fun t ht hW => ⟨⟨(nI my), o, rfl, ⟨by rw [hF, if_pos c_67], trivial⟩, by show va_P _ _ _ _; rw [ht]; exact hP⟩, hS.F ht⟩) hS.2.2 dX4_fewest_209
          · have c_67 : ¬ (g = 0) := fun h => c_67 ((nI_eq (a := g) (b := 0) (by omega) (by omega)).mpr h)
            refine lv_iconst (v := (-1)) hx hb dX4_fewest_70 (by decide) ?_
            refine lv_istore (lv' := [(5, .int (-1)), (0, .ref (ad 0)), (1, .int x), (2, .int (nI my)), (3, .int left), (4, .int (nI g))]) hx hb dX4_fewest_71 hl (by decide) rfl (fun ls hl => ?_)
            refine lv_iconst (v := 0) hx hb dX4_fewest_73 (by decide) ?_
            refine lv_istore (lv' := [(6, .int 0), (5, .int (-1)), (0, .ref (ad 0)), (1, .int x), (2, .int (nI my)), (3, .int left), (4, .int (nI g))]) hx hb dX4_fewest_74 hl (by decide) rfl (fun ls hl => ?_)
            suffices ih_76 : ∀ (fu : Nat) (k : Nat) (lo : Option Nat) (H : Heap) (locs : List Loc) (ls : Array Slot), 8 - k < fu → (k ≤ 8) → (lo = mlS (R 0) o k) → va_P D vwCl (mw T ad I (updR R 5 o)) H →  va_S (cA 7 ad s.heap.size) s.heap H locs → lv_has ls 7 [(0, .ref (ad 0)), (1, .int x), (2, .int (nI my)), (3, .int left), (4, .int (nI g)), (5, .int (oI lo)), (6, .int (nI k))] → W p l e (headSpec wsX4_fewest ({ frames := 1, cells := 0, slots := 0, locals := 21 })).room s m ([.ref (ad 0), .int x] : List Value).toArray below meth c H locs 0 0 (MQ below (va_Qi (fun r (o : Nat → Int32) => r = (nI (fmF (R 0) x)) ∧ True) (fun (o : Nat → Int32) t => va_P D vwCl (mw T ad I (updR R 5 o)) t.heap) (cA 7 ad s.heap.size)) ([.ref (ad 0), .int x] : List Value).toArray s 0 0 (cA 7 ad s.heap.size)) (F0 m 76 ls []) from
              ih_76 _ 0 none _ _ _ (Nat.lt_succ_self _) (by omega) (rfl) hP hS (lv_sub hl [2, 3, 4, 5, 6, 1, 0] rfl)
            intro fu
            induction fu with
            | zero => intro k lo H locs ls hfu; exact absurd hfu (Nat.not_lt_zero _)
            | succ fu ih_76 =>
              intro k lo H locs ls hfu hk8 hlo hP hS hl
              refine lv_iload hx hb dX4_fewest_76 (lv_at hl 6 rfl) ?_
              refine lv_bipush (v := 8) hx hb dX4_fewest_78 (by decide) ?_
              refine lv_icmp_ge (tgt := 136) hx hb dX4_fewest_80 (by decide) (fun c_80 => ?_) (fun c_80 => ?_)
              · have c_80 : 8 ≤ k := (nI_leI (a := 8) (b := k) (by omega) (by omega)).mp c_80
                obtain rfl : k = 8 := by omega
                rcases lo with _ | lw
                · exfalso
                  have h1 := ml_no hlo.symm
                  have h2 := hg (by omega)
                  exact absurd h2.2.1 (by omega)
                · obtain rfl : g = 1 := by omega
                  have hml := hlo.symm
                  have hl8 := (ml_lt hml).1
                  have hgg := hg (by omega)
                  refine lv_iload_n hx hb dX4_fewest_136 rfl (lv_at hl 3 rfl) ?_
                  refine lv_bipush (v := 8) hx hb dX4_fewest_137 (by decide) ?_
                  refine lv_aload_n hx hb dX4_fewest_139 rfl (lv_at hl 0 rfl) ?_
                  refine va_get (D := D) (ci := 4) (v := .ref (ad 1)) (C := RX4) (T := TX4) (N := 12) hx hb hts hinX4 hown hK hP 0 mw_0 rfl 1 (by decide) (hts (.fieldLink RX4 7 "SquareGearsModel" "z" "[I") (by decide +kernel)) (fun _ h9 => h9) rfl dX4_fewest_140 ?_
                  refine lv_iload hx hb dX4_fewest_143 (lv_at hl 5 rfl) ?_
                  refine cx_iald (k := lw) hx hb hK hP 1 1 mw_1 rfl (by omega) (by decide) dX4_fewest_145 ?_
                  refine lv_imul hx hb dX4_fewest_146 ?_
                  refine lv_aload_n hx hb dX4_fewest_147 rfl (lv_at hl 0 rfl) ?_
                  refine va_get (D := D) (ci := 4) (v := .ref (ad 1)) (C := RX4) (T := TX4) (N := 12) hx hb hts hinX4 hown hK hP 0 mw_0 rfl 1 (by decide) (hts (.fieldLink RX4 7 "SquareGearsModel" "z" "[I") (by decide +kernel)) (fun _ h9 => h9) rfl dX4_fewest_148 ?_
                  refine lv_iload hx hb dX4_fewest_151 (lv_at hl 5 rfl) ?_
                  refine cx_iald (k := lw) hx hb hK hP 1 1 mw_1 rfl (by omega) (by decide) dX4_fewest_153 ?_
                  refine lv_imul hx hb dX4_fewest_154 ?_
                  refine lv_isub hx hb dX4_fewest_155 ?_
                  refine lv_istore_n (lv' := [(3, .int (left - ((8 * ((R 0) lw)) * ((R 0) lw)))), (0, .ref (ad 0)), (1, .int x), (2, .int (nI my)), (4, .int (nI 1)), (5, .int (nI lw)), (6, .int (nI 8))]) hx hb dX4_fewest_156 rfl hl (by decide) rfl (fun ls hl => ?_)
                  refine lv_iload_n hx hb dX4_fewest_157 rfl (lv_at hl 0 rfl) ?_
                  refine lv_if_lt (tgt := 165) hx hb dX4_fewest_158 (by decide) (fun c_158 => ?_) (fun c_158 => ?_)
                  · refine lv_iconst (v := 0) hx hb dX4_fewest_165 (by decide) ?_
                    refine lv_istore (lv' := [(4, .int (nI 0)), (3, .int (left - ((8 * ((R 0) lw)) * ((R 0) lw)))), (0, .ref (ad 0)), (1, .int x), (2, .int (nI my)), (5, .int (nI lw)), (6, .int (nI 8))]) hx hb dX4_fewest_166 hl (by decide) rfl (fun ls hl => ?_)
                    refine lv_aload_n hx hb dX4_fewest_168 rfl (lv_at hl 2 rfl) ?_
                    refine va_get (D := D) (ci := 4) (v := .ref (ad 6)) (C := RX4) (T := TX4) (N := 12) hx hb hts hinX4 hown hK hP 0 mw_0 rfl 11 (by decide) (hts (.fieldLink RX4 26 "SquareGearsModel" "isOut" "[Z") (by decide +kernel)) (fun _ h9 => h9) rfl dX4_fewest_169 ?_
                    refine lv_iload hx hb dX4_fewest_172 (lv_at hl 5 rfl) ?_
                    refine lv_iconst (v := 1) hx hb dX4_fewest_174 (by decide) ?_
                    refine cx_zast (k := lw) hx hb hK hP (hD _ _) hS 6 2 mw_6 rfl (by omega) (by decide) (rfl) mw_R5 dX4_fewest_175 (fun H locs hP hS => ?_)
                    refine lv_iload_n hx hb dX4_fewest_176 rfl (lv_at hl 4 rfl) ?_
                    refine lv_iload hx hb dX4_fewest_177 (lv_at hl 0 rfl) ?_
                    refine lv_if_eq (tgt := 186) hx hb dX4_fewest_179 (by decide) (fun c_179 => ?_) (fun c_179 => absurd c_179 (by decide))
                    refine lv_iconst (v := 0) hx hb dX4_fewest_186 (by decide) ?_
                    refine lv_isub hx hb dX4_fewest_187 ?_
                    refine cx_top (pk_sub (a := my) (b := 0) (by omega)) ?_
                    refine lv_istore_n (lv' := [(2, .int (nI (my - 0))), (4, .int (nI 0)), (3, .int (left - ((8 * ((R 0) lw)) * ((R 0) lw)))), (0, .ref (ad 0)), (1, .int x), (5, .int (nI lw)), (6, .int (nI 8))]) hx hb dX4_fewest_188 rfl hl (by decide) rfl (fun ls hl => ?_)
                    refine lv_iload hx hb dX4_fewest_189 (lv_at hl 1 rfl) ?_
                    refine lv_if_eq (tgt := 202) hx hb dX4_fewest_191 (by decide) (fun c_191 => ?_) (fun c_191 => absurd c_191 (by decide))
                    refine lv_iconst (v := 0) hx hb dX4_fewest_202 (by decide) ?_
                    refine lv_istore (lv' := [(4, .int (nI 0)), (2, .int (nI (my - 0))), (3, .int (left - ((8 * ((R 0) lw)) * ((R 0) lw)))), (0, .ref (ad 0)), (1, .int x), (5, .int (nI lw)), (6, .int (nI 8))]) hx hb dX4_fewest_203 hl (by decide) rfl (fun ls hl => ?_)
                    refine lv_goto (tgt := 65) hx hb dX4_fewest_205 (by decide) ?_
                    exact ih_65 (n - 1) (upd o lw 1) (left - ((8 * ((R 0) lw)) * ((R 0) lw))) (my - 0) 0 _ _ _ (by omega) (by omega) (by omega) (hF.trans (by rw [if_neg (by omega), if_pos rfl]; exact fmr_a (by omega) hml c_158)) (fun h => absurd h (by decide)) (m_upd hP) hS (lv_sub hl [3, 4, 1, 2, 0] rfl)
                  · refine lv_iconst (v := 1) hx hb dX4_fewest_161 (by decide) ?_
                    refine lv_goto (tgt := 166) hx hb dX4_fewest_162 (by decide) ?_
                    refine lv_istore (lv' := [(4, .int (nI 1)), (3, .int (left - ((8 * ((R 0) lw)) * ((R 0) lw)))), (0, .ref (ad 0)), (1, .int x), (2, .int (nI my)), (5, .int (nI lw)), (6, .int (nI 8))]) hx hb dX4_fewest_166 hl (by decide) rfl (fun ls hl => ?_)
                    refine lv_aload_n hx hb dX4_fewest_168 rfl (lv_at hl 2 rfl) ?_
                    refine va_get (D := D) (ci := 4) (v := .ref (ad 6)) (C := RX4) (T := TX4) (N := 12) hx hb hts hinX4 hown hK hP 0 mw_0 rfl 11 (by decide) (hts (.fieldLink RX4 26 "SquareGearsModel" "isOut" "[Z") (by decide +kernel)) (fun _ h9 => h9) rfl dX4_fewest_169 ?_
                    refine lv_iload hx hb dX4_fewest_172 (lv_at hl 5 rfl) ?_
                    refine lv_iconst (v := 1) hx hb dX4_fewest_174 (by decide) ?_
                    refine cx_zast (k := lw) hx hb hK hP (hD _ _) hS 6 2 mw_6 rfl (by omega) (by decide) (rfl) mw_R5 dX4_fewest_175 (fun H locs hP hS => ?_)
                    refine lv_iload_n hx hb dX4_fewest_176 rfl (lv_at hl 4 rfl) ?_
                    refine lv_iload hx hb dX4_fewest_177 (lv_at hl 0 rfl) ?_
                    refine lv_if_eq (tgt := 186) hx hb dX4_fewest_179 (by decide) (fun c_179 => absurd c_179 (by decide)) (fun c_179 => ?_)
                    refine lv_iconst (v := 1) hx hb dX4_fewest_182 (by decide) ?_
                    refine lv_goto (tgt := 187) hx hb dX4_fewest_183 (by decide) ?_
                    refine lv_isub hx hb dX4_fewest_187 ?_
                    refine cx_top (pk_sub (a := my) (b := 1) (by omega)) ?_
                    refine lv_istore_n (lv' := [(2, .int (nI (my - 1))), (4, .int (nI 1)), (3, .int (left - ((8 * ((R 0) lw)) * ((R 0) lw)))), (0, .ref (ad 0)), (1, .int x), (5, .int (nI lw)), (6, .int (nI 8))]) hx hb dX4_fewest_188 rfl hl (by decide) rfl (fun ls hl => ?_)
                    refine lv_iload hx hb dX4_fewest_189 (lv_at hl 1 rfl) ?_
                    refine lv_if_eq (tgt := 202) hx hb dX4_fewest_191 (by decide) (fun c_191 => absurd c_191 (by decide)) (fun c_191 => ?_)
                    refine lv_iload_n hx hb dX4_fewest_194 rfl (lv_at hl 0 rfl) ?_
                    refine lv_if_le (tgt := 202) hx hb dX4_fewest_195 (by decide) (fun c_195 => ?_) (fun c_195 => ?_)
                    · have c_195 : (my - 1) ≤ 0 := (nI_leI (a := (my - 1)) (b := 0) (by omega) (by omega)).mp c_195
                      refine lv_iconst (v := 0) hx hb dX4_fewest_202 (by decide) ?_
                      refine lv_istore (lv' := [(4, .int (nI 0)), (2, .int (nI (my - 1))), (3, .int (left - ((8 * ((R 0) lw)) * ((R 0) lw)))), (0, .ref (ad 0)), (1, .int x), (5, .int (nI lw)), (6, .int (nI 8))]) hx hb dX4_fewest_203 hl (by decide) rfl (fun ls hl => ?_)
                      refine lv_goto (tgt := 65) hx hb dX4_fewest_205 (by decide) ?_
                      exact ih_65 (n - 1) (upd o lw 1) (left - ((8 * ((R 0) lw)) * ((R 0) lw))) (my - 1) 0 _ _ _ (by omega) (by omega) (by omega) (hF.trans (by rw [if_neg (by omega), if_pos rfl]; exact fmr_b (by omega) hml c_158 c_195)) (fun h => absurd h (by decide)) (m_upd hP) hS (lv_sub hl [3, 4, 1, 2, 0] rfl)
                    · have c_195 : ¬ ((my - 1) ≤ 0) := fun h => c_195 ((nI_leI (a := (my - 1)) (b := 0) (by omega) (by omega)).mpr h)
                      refine lv_iconst (v := 1) hx hb dX4_fewest_198 (by decide) ?_
                      refine lv_goto (tgt := 203) hx hb dX4_fewest_199 (by decide) ?_
                      refine lv_istore (lv' := [(4, .int (nI 1)), (2, .int (nI (my - 1))), (3, .int (left - ((8 * ((R 0) lw)) * ((R 0) lw)))), (0, .ref (ad 0)), (1, .int x), (5, .int (nI lw)), (6, .int (nI 8))]) hx hb dX4_fewest_203 hl (by decide) rfl (fun ls hl => ?_)
                      refine lv_goto (tgt := 65) hx hb dX4_fewest_205 (by decide) ?_
                      exact ih_65 (n - 1) (upd o lw 1) (left - ((8 * ((R 0) lw)) * ((R 0) lw))) (my - 1) 1 _ _ _ (by omega) (by omega) (by omega) (hF.trans (by rw [if_neg (by omega), if_neg (by decide)]; exact fmr_c (by omega) hml c_158 c_195)) (fun _ => by have h1 := zc_up (ml_lt hml).2 (ml_lt hml).1; omega) (m_upd hP) hS (lv_sub hl [3, 4, 1, 2, 0] rfl)
              · have c_80 : ¬ (8 ≤ k) := fun h => c_80 ((nI_leI (a := 8) (b := k) (by omega) (by omega)).mpr h)
                refine lv_aload_n hx hb dX4_fewest_83 rfl (lv_at hl 0 rfl) ?_
                refine va_get (D := D) (ci := 4) (v := .ref (ad 6)) (C := RX4) (T := TX4) (N := 12) hx hb hts hinX4 hown hK hP 0 mw_0 rfl 11 (by decide) (hts (.fieldLink RX4 26 "SquareGearsModel" "isOut" "[Z") (by decide +kernel)) (fun _ h9 => h9) rfl dX4_fewest_84 ?_
                refine lv_iload hx hb dX4_fewest_87 (lv_at hl 6 rfl) ?_
                refine cx_zald (k := k) hx hb hK hP 6 2 mw_6 rfl (by omega) (by decide) dX4_fewest_89 ?_
                refine lv_if_ne (tgt := 126) hx hb dX4_fewest_90 (by decide) (fun c_90 => ?_) (fun c_90 => ?_)
                · refine lv_iload hx hb dX4_fewest_126 (lv_at hl 5 rfl) ?_
                  refine lv_istore (lv' := [(5, .int (oI lo)), (0, .ref (ad 0)), (1, .int x), (2, .int (nI my)), (3, .int left), (4, .int (nI g)), (6, .int (nI k))]) hx hb dX4_fewest_128 hl (by decide) rfl (fun ls hl => ?_)
                  refine lv_iinc (k := 6) (v := (nI (k + 1))) (lv' := [(6, .int (nI (k + 1))), (5, .int (oI lo)), (0, .ref (ad 0)), (1, .int x), (2, .int (nI my)), (3, .int left), (4, .int (nI g))]) hx hb dX4_fewest_130 hl rfl (nI_add k 1) (by decide) rfl (fun ls hl => ?_)
                  refine lv_goto (tgt := 76) hx hb dX4_fewest_133 (by decide) ?_
                  exact ih_76 (k + 1) lo _ _ _ (by omega) (by omega) (ml_a hlo c_90) hP hS (lv_sub hl [2, 3, 4, 5, 6, 1, 0] rfl)
                · rcases lo with _ | lw
                  · refine lv_iload hx hb dX4_fewest_93 (lv_at hl 5 rfl) ?_
                    refine lv_if_lt (tgt := 121) hx hb dX4_fewest_95 (by decide) (fun c_95 => ?_) (fun c_95 => absurd c_95 (by decide))
                    refine lv_iload hx hb dX4_fewest_121 (lv_at hl 6 rfl) ?_
                    refine lv_goto (tgt := 128) hx hb dX4_fewest_123 (by decide) ?_
                    refine lv_istore (lv' := [(5, .int (nI k)), (0, .ref (ad 0)), (1, .int x), (2, .int (nI my)), (3, .int left), (4, .int (nI g)), (6, .int (nI k))]) hx hb dX4_fewest_128 hl (by decide) rfl (fun ls hl => ?_)
                    refine lv_iinc (k := 6) (v := (nI (k + 1))) (lv' := [(6, .int (nI (k + 1))), (5, .int (nI k)), (0, .ref (ad 0)), (1, .int x), (2, .int (nI my)), (3, .int left), (4, .int (nI g))]) hx hb dX4_fewest_130 hl rfl (nI_add k 1) (by decide) rfl (fun ls hl => ?_)
                    refine lv_goto (tgt := 76) hx hb dX4_fewest_133 (by decide) ?_
                    exact ih_76 (k + 1) (some (k)) _ _ _ (by omega) (by omega) (ml_b hlo c_90) hP hS (lv_sub hl [2, 3, 4, 5, 6, 1, 0] rfl)
                  · have hl8 := (ml_lt hlo.symm).1
                    refine lv_iload hx hb dX4_fewest_93 (lv_at hl 5 rfl) ?_
                    refine lv_if_lt (tgt := 121) hx hb dX4_fewest_95 (by decide) (fun c_95 => ?_) (fun c_95 => ?_)
                    · have c_95 : lw < 0 := (nI_ltI (a := lw) (b := 0) (by omega) (by omega)).mp c_95
                      exact absurd c_95 (by omega)
                    · have c_95 : ¬ (lw < 0) := fun h => c_95 ((nI_ltI (a := lw) (b := 0) (by omega) (by omega)).mpr h)
                      refine lv_aload_n hx hb dX4_fewest_98 rfl (lv_at hl 0 rfl) ?_
                      refine va_get (D := D) (ci := 4) (v := .ref (ad 1)) (C := RX4) (T := TX4) (N := 12) hx hb hts hinX4 hown hK hP 0 mw_0 rfl 1 (by decide) (hts (.fieldLink RX4 7 "SquareGearsModel" "z" "[I") (by decide +kernel)) (fun _ h9 => h9) rfl dX4_fewest_99 ?_
                      refine lv_iload hx hb dX4_fewest_102 (lv_at hl 6 rfl) ?_
                      refine cx_iald (k := k) hx hb hK hP 1 1 mw_1 rfl (by omega) (by decide) dX4_fewest_104 ?_
                      refine cx_ri (va_runS (As := [.int ((R 0) k)]) (rest := []) ⟨hx, hb, hml, hown, hts⟩ (c_X4_amount l  ((R 0) k)) (va_cwS 1 hts gX4_fewest_X4_amount rfl rfl rfl (by decide +kernel) ⟨Nat.le_of_ble_eq_true rfl, Nat.le_of_ble_eq_true rfl⟩) ⟨pc_blind, (fun U hU hW => ⟨rfl, trivial⟩)⟩ rfl rfl hl.1 rfl (lv_room (Nat.le_of_ble_eq_true rfl)) dX4_fewest_105 ⟨Nat.le_of_ble_eq_true rfl, Nat.le_of_ble_eq_true rfl⟩) hS hP (fun H locs hP hS => ?_)
                      refine lv_aload_n hx hb dX4_fewest_108 rfl (lv_at hl 0 rfl) ?_
                      refine va_get (D := D) (ci := 4) (v := .ref (ad 1)) (C := RX4) (T := TX4) (N := 12) hx hb hts hinX4 hown hK hP 0 mw_0 rfl 1 (by decide) (hts (.fieldLink RX4 7 "SquareGearsModel" "z" "[I") (by decide +kernel)) (fun _ h9 => h9) rfl dX4_fewest_109 ?_
                      refine lv_iload hx hb dX4_fewest_112 (lv_at hl 5 rfl) ?_
                      refine cx_iald (k := lw) hx hb hK hP 1 1 mw_1 rfl (by omega) (by decide) dX4_fewest_114 ?_
                      refine cx_ri (va_runS (As := [.int ((R 0) lw)]) (rest := [.int (abI ((R 0) k))]) ⟨hx, hb, hml, hown, hts⟩ (c_X4_amount l  ((R 0) lw)) (va_cwS 1 hts gX4_fewest_X4_amount rfl rfl rfl (by decide +kernel) ⟨Nat.le_of_ble_eq_true rfl, Nat.le_of_ble_eq_true rfl⟩) ⟨pc_blind, (fun U hU hW => ⟨rfl, trivial⟩)⟩ rfl rfl hl.1 rfl (lv_room (Nat.le_of_ble_eq_true rfl)) dX4_fewest_115 ⟨Nat.le_of_ble_eq_true rfl, Nat.le_of_ble_eq_true rfl⟩) hS hP (fun H locs hP hS => ?_)
                      refine lv_icmp_ge (tgt := 126) hx hb dX4_fewest_118 (by decide) (fun c_118 => ?_) (fun c_118 => ?_)
                      · refine lv_iload hx hb dX4_fewest_126 (lv_at hl 5 rfl) ?_
                        refine lv_istore (lv' := [(5, .int (nI lw)), (0, .ref (ad 0)), (1, .int x), (2, .int (nI my)), (3, .int left), (4, .int (nI g)), (6, .int (nI k))]) hx hb dX4_fewest_128 hl (by decide) rfl (fun ls hl => ?_)
                        refine lv_iinc (k := 6) (v := (nI (k + 1))) (lv' := [(6, .int (nI (k + 1))), (5, .int (nI lw)), (0, .ref (ad 0)), (1, .int x), (2, .int (nI my)), (3, .int left), (4, .int (nI g))]) hx hb dX4_fewest_130 hl rfl (nI_add k 1) (by decide) rfl (fun ls hl => ?_)
                        refine lv_goto (tgt := 76) hx hb dX4_fewest_133 (by decide) ?_
                        exact ih_76 (k + 1) (some (lw)) _ _ _ (by omega) (by omega) (ml_c hlo c_90 c_118) hP hS (lv_sub hl [2, 3, 4, 5, 6, 1, 0] rfl)
                      · refine lv_iload hx hb dX4_fewest_121 (lv_at hl 6 rfl) ?_
                        refine lv_goto (tgt := 128) hx hb dX4_fewest_123 (by decide) ?_
                        refine lv_istore (lv' := [(5, .int (nI k)), (0, .ref (ad 0)), (1, .int x), (2, .int (nI my)), (3, .int left), (4, .int (nI g)), (6, .int (nI k))]) hx hb dX4_fewest_128 hl (by decide) rfl (fun ls hl => ?_)
                        refine lv_iinc (k := 6) (v := (nI (k + 1))) (lv' := [(6, .int (nI (k + 1))), (5, .int (nI k)), (0, .ref (ad 0)), (1, .int x), (2, .int (nI my)), (3, .int left), (4, .int (nI g))]) hx hb dX4_fewest_130 hl rfl (nI_add k 1) (by decide) rfl (fun ls hl => ?_)
                        refine lv_goto (tgt := 76) hx hb dX4_fewest_133 (by decide) ?_
                        exact ih_76 (k + 1) (some (k)) _ _ _ (by omega) (by omega) (ml_d hlo c_90 c_118) hP hS (lv_sub hl [2, 3, 4, 5, 6, 1, 0] rfl)
      · have c_55 : ¬ ((zc (oM (R 0)) 8) ≤ 0) := fun h => c_55 ((nI_leI (a := (zc (oM (R 0)) 8)) (b := 0) (by omega) (by omega)).mpr h)
        refine lv_iconst (v := 1) hx hb dX4_fewest_58 (by decide) ?_
        refine lv_goto (tgt := 63) hx hb dX4_fewest_59 (by decide) ?_
        refine lv_istore (lv' := [(4, .int (nI 1)), (3, .int x), (0, .ref (ad 0)), (1, .int x), (2, .int (nI (zc (oM (R 0)) 8)))]) hx hb dX4_fewest_63 hl (by decide) rfl (fun ls hl => ?_)
        suffices ih_65 : ∀ (fu : Nat) (n : Nat) (o : Nat → Int32) (left : Int32) (my : Nat) (g : Nat) (H : Heap) (locs : List Loc) (ls : Array Slot), g * (1 + my) < fu → (g ≤ 1) → (my ≤ 8) → (fmF (R 0) x = if g = 0 then my else fmR (R 0) n o left my) → (g = 1 → my = zc o 8 ∧ 0 < my ∧ my ≤ n) → va_P D vwCl (mw T ad I (updR R 5 o)) H →  va_S (cA 7 ad s.heap.size) s.heap H locs → lv_has ls 7 [(0, .ref (ad 0)), (1, .int x), (2, .int (nI my)), (3, .int left), (4, .int (nI g))] → W p l e (headSpec wsX4_fewest ({ frames := 1, cells := 0, slots := 0, locals := 21 })).room s m ([.ref (ad 0), .int x] : List Value).toArray below meth c H locs 0 0 (MQ below (va_Qi (fun r (o : Nat → Int32) => r = (nI (fmF (R 0) x)) ∧ True) (fun (o : Nat → Int32) t => va_P D vwCl (mw T ad I (updR R 5 o)) t.heap) (cA 7 ad s.heap.size)) ([.ref (ad 0), .int x] : List Value).toArray s 0 0 (cA 7 ad s.heap.size)) (F0 m 65 ls []) from
          ih_65 _ 8 (oM (R 0)) x (zc (oM (R 0)) 8) 1 _ _ _ (Nat.lt_succ_self _) (by omega) (zc_le _ 8) (by rw [if_neg (by decide)]; exact if_neg c_55) (fun _ => ⟨rfl, by omega, zc_le _ 8⟩) hP hS (lv_sub hl [2, 3, 4, 1, 0] rfl)
        intro fu
        induction fu with
        | zero => intro n o left my g H locs ls hfu; exact absurd hfu (Nat.not_lt_zero _)
        | succ fu ih_65 =>
          intro n o left my g H locs ls hfu hg1 hmy8 hF hg hP hS hl
          refine lv_iload hx hb dX4_fewest_65 (lv_at hl 4 rfl) ?_
          refine lv_if_eq (tgt := 208) hx hb dX4_fewest_67 (by decide) (fun c_67 => ?_) (fun c_67 => ?_)
          · have c_67 : g = 0 := (nI_eq (a := g) (b := 0) (by omega) (by omega)).mp c_67
            refine lv_iload_n hx hb dX4_fewest_208 rfl (lv_at hl 2 rfl) ?_
            exact W.iret (v := (nI my)) hx hb hr (fun t ht hW => ⟨⟨(nI my), o, rfl, ⟨by rw [hF, if_pos c_67], trivial⟩, by show va_P _ _ _ _; rw [ht]; exact hP⟩, hS.F ht⟩) hS.2.2 dX4_fewest_209
          · have c_67 : ¬ (g = 0) := fun h => c_67 ((nI_eq (a := g) (b := 0) (by omega) (by omega)).mpr h)
            refine lv_iconst (v := (-1)) hx hb dX4_fewest_70 (by decide) ?_
            refine lv_istore (lv' := [(5, .int (-1)), (0, .ref (ad 0)), (1, .int x), (2, .int (nI my)), (3, .int left), (4, .int (nI g))]) hx hb dX4_fewest_71 hl (by decide) rfl (fun ls hl => ?_)
            refine lv_iconst (v := 0) hx hb dX4_fewest_73 (by decide) ?_
            refine lv_istore (lv' := [(6, .int 0), (5, .int (-1)), (0, .ref (ad 0)), (1, .int x), (2, .int (nI my)), (3, .int left), (4, .int (nI g))]) hx hb dX4_fewest_74 hl (by decide) rfl (fun ls hl => ?_)
            suffices ih_76 : ∀ (fu : Nat) (k : Nat) (lo : Option Nat) (H : Heap) (locs : List Loc) (ls : Array Slot), 8 - k < fu → (k ≤ 8) → (lo = mlS (R 0) o k) → va_P D vwCl (mw T ad I (updR R 5 o)) H →  va_S (cA 7 ad s.heap.size) s.heap H locs → lv_has ls 7 [(0, .ref (ad 0)), (1, .int x), (2, .int (nI my)), (3, .int left), (4, .int (nI g)), (5, .int (oI lo)), (6, .int (nI k))] → W p l e (headSpec wsX4_fewest ({ frames := 1, cells := 0, slots := 0, locals := 21 })).room s m ([.ref (ad 0), .int x] : List Value).toArray below meth c H locs 0 0 (MQ below (va_Qi (fun r (o : Nat → Int32) => r = (nI (fmF (R 0) x)) ∧ True) (fun (o : Nat → Int32) t => va_P D vwCl (mw T ad I (updR R 5 o)) t.heap) (cA 7 ad s.heap.size)) ([.ref (ad 0), .int x] : List Value).toArray s 0 0 (cA 7 ad s.heap.size)) (F0 m 76 ls []) from
              ih_76 _ 0 none _ _ _ (Nat.lt_succ_self _) (by omega) (rfl) hP hS (lv_sub hl [2, 3, 4, 5, 6, 1, 0] rfl)
            intro fu
            induction fu with
            | zero => intro k lo H locs ls hfu; exact absurd hfu (Nat.not_lt_zero _)
            | succ fu ih_76 =>
              intro k lo H locs ls hfu hk8 hlo hP hS hl
              refine lv_iload hx hb dX4_fewest_76 (lv_at hl 6 rfl) ?_
              refine lv_bipush (v := 8) hx hb dX4_fewest_78 (by decide) ?_
              refine lv_icmp_ge (tgt := 136) hx hb dX4_fewest_80 (by decide) (fun c_80 => ?_) (fun c_80 => ?_)
              · have c_80 : 8 ≤ k := (nI_leI (a := 8) (b := k) (by omega) (by omega)).mp c_80
                obtain rfl : k = 8 := by omega
                rcases lo with _ | lw
                · exfalso
                  have h1 := ml_no hlo.symm
                  have h2 := hg (by omega)
                  exact absurd h2.2.1 (by omega)
                · obtain rfl : g = 1 := by omega
                  have hml := hlo.symm
                  have hl8 := (ml_lt hml).1
                  have hgg := hg (by omega)
                  refine lv_iload_n hx hb dX4_fewest_136 rfl (lv_at hl 3 rfl) ?_
                  refine lv_bipush (v := 8) hx hb dX4_fewest_137 (by decide) ?_
                  refine lv_aload_n hx hb dX4_fewest_139 rfl (lv_at hl 0 rfl) ?_
                  refine va_get (D := D) (ci := 4) (v := .ref (ad 1)) (C := RX4) (T := TX4) (N := 12) hx hb hts hinX4 hown hK hP 0 mw_0 rfl 1 (by decide) (hts (.fieldLink RX4 7 "SquareGearsModel" "z" "[I") (by decide +kernel)) (fun _ h9 => h9) rfl dX4_fewest_140 ?_
                  refine lv_iload hx hb dX4_fewest_143 (lv_at hl 5 rfl) ?_
                  refine cx_iald (k := lw) hx hb hK hP 1 1 mw_1 rfl (by omega) (by decide) dX4_fewest_145 ?_
                  refine lv_imul hx hb dX4_fewest_146 ?_
                  refine lv_aload_n hx hb dX4_fewest_147 rfl (lv_at hl 0 rfl) ?_
                  refine va_get (D := D) (ci := 4) (v := .ref (ad 1)) (C := RX4) (T := TX4) (N := 12) hx hb hts hinX4 hown hK hP 0 mw_0 rfl 1 (by decide) (hts (.fieldLink RX4 7 "SquareGearsModel" "z" "[I") (by decide +kernel)) (fun _ h9 => h9) rfl dX4_fewest_148 ?_
                  refine lv_iload hx hb dX4_fewest_151 (lv_at hl 5 rfl) ?_
                  refine cx_iald (k := lw) hx hb hK hP 1 1 mw_1 rfl (by omega) (by decide) dX4_fewest_153 ?_
                  refine lv_imul hx hb dX4_fewest_154 ?_
                  refine lv_isub hx hb dX4_fewest_155 ?_
                  refine lv_istore_n (lv' := [(3, .int (left - ((8 * ((R 0) lw)) * ((R 0) lw)))), (0, .ref (ad 0)), (1, .int x), (2, .int (nI my)), (4, .int (nI 1)), (5, .int (nI lw)), (6, .int (nI 8))]) hx hb dX4_fewest_156 rfl hl (by decide) rfl (fun ls hl => ?_)
                  refine lv_iload_n hx hb dX4_fewest_157 rfl (lv_at hl 0 rfl) ?_
                  refine lv_if_lt (tgt := 165) hx hb dX4_fewest_158 (by decide) (fun c_158 => ?_) (fun c_158 => ?_)
                  · refine lv_iconst (v := 0) hx hb dX4_fewest_165 (by decide) ?_
                    refine lv_istore (lv' := [(4, .int (nI 0)), (3, .int (left - ((8 * ((R 0) lw)) * ((R 0) lw)))), (0, .ref (ad 0)), (1, .int x), (2, .int (nI my)), (5, .int (nI lw)), (6, .int (nI 8))]) hx hb dX4_fewest_166 hl (by decide) rfl (fun ls hl => ?_)
                    refine lv_aload_n hx hb dX4_fewest_168 rfl (lv_at hl 2 rfl) ?_
                    refine va_get (D := D) (ci := 4) (v := .ref (ad 6)) (C := RX4) (T := TX4) (N := 12) hx hb hts hinX4 hown hK hP 0 mw_0 rfl 11 (by decide) (hts (.fieldLink RX4 26 "SquareGearsModel" "isOut" "[Z") (by decide +kernel)) (fun _ h9 => h9) rfl dX4_fewest_169 ?_
                    refine lv_iload hx hb dX4_fewest_172 (lv_at hl 5 rfl) ?_
                    refine lv_iconst (v := 1) hx hb dX4_fewest_174 (by decide) ?_
                    refine cx_zast (k := lw) hx hb hK hP (hD _ _) hS 6 2 mw_6 rfl (by omega) (by decide) (rfl) mw_R5 dX4_fewest_175 (fun H locs hP hS => ?_)
                    refine lv_iload_n hx hb dX4_fewest_176 rfl (lv_at hl 4 rfl) ?_
                    refine lv_iload hx hb dX4_fewest_177 (lv_at hl 0 rfl) ?_
                    refine lv_if_eq (tgt := 186) hx hb dX4_fewest_179 (by decide) (fun c_179 => ?_) (fun c_179 => absurd c_179 (by decide))
                    refine lv_iconst (v := 0) hx hb dX4_fewest_186 (by decide) ?_
                    refine lv_isub hx hb dX4_fewest_187 ?_
                    refine cx_top (pk_sub (a := my) (b := 0) (by omega)) ?_
                    refine lv_istore_n (lv' := [(2, .int (nI (my - 0))), (4, .int (nI 0)), (3, .int (left - ((8 * ((R 0) lw)) * ((R 0) lw)))), (0, .ref (ad 0)), (1, .int x), (5, .int (nI lw)), (6, .int (nI 8))]) hx hb dX4_fewest_188 rfl hl (by decide) rfl (fun ls hl => ?_)
                    refine lv_iload hx hb dX4_fewest_189 (lv_at hl 1 rfl) ?_
                    refine lv_if_eq (tgt := 202) hx hb dX4_fewest_191 (by decide) (fun c_191 => ?_) (fun c_191 => absurd c_191 (by decide))
                    refine lv_iconst (v := 0) hx hb dX4_fewest_202 (by decide) ?_
                    refine lv_istore (lv' := [(4, .int (nI 0)), (2, .int (nI (my - 0))), (3, .int (left - ((8 * ((R 0) lw)) * ((R 0) lw)))), (0, .ref (ad 0)), (1, .int x), (5, .int (nI lw)), (6, .int (nI 8))]) hx hb dX4_fewest_203 hl (by decide) rfl (fun ls hl => ?_)
                    refine lv_goto (tgt := 65) hx hb dX4_fewest_205 (by decide) ?_
                    exact ih_65 (n - 1) (upd o lw 1) (left - ((8 * ((R 0) lw)) * ((R 0) lw))) (my - 0) 0 _ _ _ (by omega) (by omega) (by omega) (hF.trans (by rw [if_neg (by omega), if_pos rfl]; exact fmr_a (by omega) hml c_158)) (fun h => absurd h (by decide)) (m_upd hP) hS (lv_sub hl [3, 4, 1, 2, 0] rfl)
                  · refine lv_iconst (v := 1) hx hb dX4_fewest_161 (by decide) ?_
                    refine lv_goto (tgt := 166) hx hb dX4_fewest_162 (by decide) ?_
                    refine lv_istore (lv' := [(4, .int (nI 1)), (3, .int (left - ((8 * ((R 0) lw)) * ((R 0) lw)))), (0, .ref (ad 0)), (1, .int x), (2, .int (nI my)), (5, .int (nI lw)), (6, .int (nI 8))]) hx hb dX4_fewest_166 hl (by decide) rfl (fun ls hl => ?_)
                    refine lv_aload_n hx hb dX4_fewest_168 rfl (lv_at hl 2 rfl) ?_
                    refine va_get (D := D) (ci := 4) (v := .ref (ad 6)) (C := RX4) (T := TX4) (N := 12) hx hb hts hinX4 hown hK hP 0 mw_0 rfl 11 (by decide) (hts (.fieldLink RX4 26 "SquareGearsModel" "isOut" "[Z") (by decide +kernel)) (fun _ h9 => h9) rfl dX4_fewest_169 ?_
                    refine lv_iload hx hb dX4_fewest_172 (lv_at hl 5 rfl) ?_
                    refine lv_iconst (v := 1) hx hb dX4_fewest_174 (by decide) ?_
                    refine cx_zast (k := lw) hx hb hK hP (hD _ _) hS 6 2 mw_6 rfl (by omega) (by decide) (rfl) mw_R5 dX4_fewest_175 (fun H locs hP hS => ?_)
                    refine lv_iload_n hx hb dX4_fewest_176 rfl (lv_at hl 4 rfl) ?_
                    refine lv_iload hx hb dX4_fewest_177 (lv_at hl 0 rfl) ?_
                    refine lv_if_eq (tgt := 186) hx hb dX4_fewest_179 (by decide) (fun c_179 => absurd c_179 (by decide)) (fun c_179 => ?_)
                    refine lv_iconst (v := 1) hx hb dX4_fewest_182 (by decide) ?_
                    refine lv_goto (tgt := 187) hx hb dX4_fewest_183 (by decide) ?_
                    refine lv_isub hx hb dX4_fewest_187 ?_
                    refine cx_top (pk_sub (a := my) (b := 1) (by omega)) ?_
                    refine lv_istore_n (lv' := [(2, .int (nI (my - 1))), (4, .int (nI 1)), (3, .int (left - ((8 * ((R 0) lw)) * ((R 0) lw)))), (0, .ref (ad 0)), (1, .int x), (5, .int (nI lw)), (6, .int (nI 8))]) hx hb dX4_fewest_188 rfl hl (by decide) rfl (fun ls hl => ?_)
                    refine lv_iload hx hb dX4_fewest_189 (lv_at hl 1 rfl) ?_
                    refine lv_if_eq (tgt := 202) hx hb dX4_fewest_191 (by decide) (fun c_191 => absurd c_191 (by decide)) (fun c_191 => ?_)
                    refine lv_iload_n hx hb dX4_fewest_194 rfl (lv_at hl 0 rfl) ?_
                    refine lv_if_le (tgt := 202) hx hb dX4_fewest_195 (by decide) (fun c_195 => ?_) (fun c_195 => ?_)
                    · have c_195 : (my - 1) ≤ 0 := (nI_leI (a := (my - 1)) (b := 0) (by omega) (by omega)).mp c_195
                      refine lv_iconst (v := 0) hx hb dX4_fewest_202 (by decide) ?_
                      refine lv_istore (lv' := [(4, .int (nI 0)), (2, .int (nI (my - 1))), (3, .int (left - ((8 * ((R 0) lw)) * ((R 0) lw)))), (0, .ref (ad 0)), (1, .int x), (5, .int (nI lw)), (6, .int (nI 8))]) hx hb dX4_fewest_203 hl (by decide) rfl (fun ls hl => ?_)
                      refine lv_goto (tgt := 65) hx hb dX4_fewest_205 (by decide) ?_
                      exact ih_65 (n - 1) (upd o lw 1) (left - ((8 * ((R 0) lw)) * ((R 0) lw))) (my - 1) 0 _ _ _ (by omega) (by omega) (by omega) (hF.trans (by rw [if_neg (by omega), if_pos rfl]; exact fmr_b (by omega) hml c_158 c_195)) (fun h => absurd h (by decide)) (m_upd hP) hS (lv_sub hl [3, 4, 1, 2, 0] rfl)
                    · have c_195 : ¬ ((my - 1) ≤ 0) := fun h => c_195 ((nI_leI (a := (my - 1)) (b := 0) (by omega) (by omega)).mpr h)
                      refine lv_iconst (v := 1) hx hb dX4_fewest_198 (by decide) ?_
                      refine lv_goto (tgt := 203) hx hb dX4_fewest_199 (by decide) ?_
                      refine lv_istore (lv' := [(4, .int (nI 1)), (2, .int (nI (my - 1))), (3, .int (left - ((8 * ((R 0) lw)) * ((R 0) lw)))), (0, .ref (ad 0)), (1, .int x), (5, .int (nI lw)), (6, .int (nI 8))]) hx hb dX4_fewest_203 hl (by decide) rfl (fun ls hl => ?_)
                      refine lv_goto (tgt := 65) hx hb dX4_fewest_205 (by decide) ?_
                      exact ih_65 (n - 1) (upd o lw 1) (left - ((8 * ((R 0) lw)) * ((R 0) lw))) (my - 1) 1 _ _ _ (by omega) (by omega) (by omega) (hF.trans (by rw [if_neg (by omega), if_neg (by decide)]; exact fmr_c (by omega) hml c_158 c_195)) (fun _ => by have h1 := zc_up (ml_lt hml).2 (ml_lt hml).1; omega) (m_upd hP) hS (lv_sub hl [3, 4, 1, 2, 0] rfl)
              · have c_80 : ¬ (8 ≤ k) := fun h => c_80 ((nI_leI (a := 8) (b := k) (by omega) (by omega)).mpr h)
                refine lv_aload_n hx hb dX4_fewest_83 rfl (lv_at hl 0 rfl) ?_
                refine va_get (D := D) (ci := 4) (v := .ref (ad 6)) (C := RX4) (T := TX4) (N := 12) hx hb hts hinX4 hown hK hP 0 mw_0 rfl 11 (by decide) (hts (.fieldLink RX4 26 "SquareGearsModel" "isOut" "[Z") (by decide +kernel)) (fun _ h9 => h9) rfl dX4_fewest_84 ?_
                refine lv_iload hx hb dX4_fewest_87 (lv_at hl 6 rfl) ?_
                refine cx_zald (k := k) hx hb hK hP 6 2 mw_6 rfl (by omega) (by decide) dX4_fewest_89 ?_
                refine lv_if_ne (tgt := 126) hx hb dX4_fewest_90 (by decide) (fun c_90 => ?_) (fun c_90 => ?_)
                · refine lv_iload hx hb dX4_fewest_126 (lv_at hl 5 rfl) ?_
                  refine lv_istore (lv' := [(5, .int (oI lo)), (0, .ref (ad 0)), (1, .int x), (2, .int (nI my)), (3, .int left), (4, .int (nI g)), (6, .int (nI k))]) hx hb dX4_fewest_128 hl (by decide) rfl (fun ls hl => ?_)
                  refine lv_iinc (k := 6) (v := (nI (k + 1))) (lv' := [(6, .int (nI (k + 1))), (5, .int (oI lo)), (0, .ref (ad 0)), (1, .int x), (2, .int (nI my)), (3, .int left), (4, .int (nI g))]) hx hb dX4_fewest_130 hl rfl (nI_add k 1) (by decide) rfl (fun ls hl => ?_)
                  refine lv_goto (tgt := 76) hx hb dX4_fewest_133 (by decide) ?_
                  exact ih_76 (k + 1) lo _ _ _ (by omega) (by omega) (ml_a hlo c_90) hP hS (lv_sub hl [2, 3, 4, 5, 6, 1, 0] rfl)
                · rcases lo with _ | lw
                  · refine lv_iload hx hb dX4_fewest_93 (lv_at hl 5 rfl) ?_
                    refine lv_if_lt (tgt := 121) hx hb dX4_fewest_95 (by decide) (fun c_95 => ?_) (fun c_95 => absurd c_95 (by decide))
                    refine lv_iload hx hb dX4_fewest_121 (lv_at hl 6 rfl) ?_
                    refine lv_goto (tgt := 128) hx hb dX4_fewest_123 (by decide) ?_
                    refine lv_istore (lv' := [(5, .int (nI k)), (0, .ref (ad 0)), (1, .int x), (2, .int (nI my)), (3, .int left), (4, .int (nI g)), (6, .int (nI k))]) hx hb dX4_fewest_128 hl (by decide) rfl (fun ls hl => ?_)
                    refine lv_iinc (k := 6) (v := (nI (k + 1))) (lv' := [(6, .int (nI (k + 1))), (5, .int (nI k)), (0, .ref (ad 0)), (1, .int x), (2, .int (nI my)), (3, .int left), (4, .int (nI g))]) hx hb dX4_fewest_130 hl rfl (nI_add k 1) (by decide) rfl (fun ls hl => ?_)
                    refine lv_goto (tgt := 76) hx hb dX4_fewest_133 (by decide) ?_
                    exact ih_76 (k + 1) (some (k)) _ _ _ (by omega) (by omega) (ml_b hlo c_90) hP hS (lv_sub hl [2, 3, 4, 5, 6, 1, 0] rfl)
                  · have hl8 := (ml_lt hlo.symm).1
                    refine lv_iload hx hb dX4_fewest_93 (lv_at hl 5 rfl) ?_
                    refine lv_if_lt (tgt := 121) hx hb dX4_fewest_95 (by decide) (fun c_95 => ?_) (fun c_95 => ?_)
                    · have c_95 : lw < 0 := (nI_ltI (a := lw) (b := 0) (by omega) (by omega)).mp c_95
                      exact absurd c_95 (by omega)
                    · have c_95 : ¬ (lw < 0) := fun h => c_95 ((nI_ltI (a := lw) (b := 0) (by omega) (by omega)).mpr h)
                      refine lv_aload_n hx hb dX4_fewest_98 rfl (lv_at hl 0 rfl) ?_
                      refine va_get (D := D) (ci := 4) (v := .ref (ad 1)) (C := RX4) (T := TX4) (N := 12) hx hb hts hinX4 hown hK hP 0 mw_0 rfl 1 (by decide) (hts (.fieldLink RX4 7 "SquareGearsModel" "z" "[I") (by decide +kernel)) (fun _ h9 => h9) rfl dX4_fewest_99 ?_
                      refine lv_iload hx hb dX4_fewest_102 (lv_at hl 6 rfl) ?_
                      refine cx_iald (k := k) hx hb hK hP 1 1 mw_1 rfl (by omega) (by decide) dX4_fewest_104 ?_
                      refine cx_ri (va_runS (As := [.int ((R 0) k)]) (rest := []) ⟨hx, hb, hml, hown, hts⟩ (c_X4_amount l  ((R 0) k)) (va_cwS 1 hts gX4_fewest_X4_amount rfl rfl rfl (by decide +kernel) ⟨Nat.le_of_ble_eq_true rfl, Nat.le_of_ble_eq_true rfl⟩) ⟨pc_blind, (fun U hU hW => ⟨rfl, trivial⟩)⟩ rfl rfl hl.1 rfl (lv_room (Nat.le_of_ble_eq_true rfl)) dX4_fewest_105 ⟨Nat.le_of_ble_eq_true rfl, Nat.le_of_ble_eq_true rfl⟩) hS hP (fun H locs hP hS => ?_)
                      refine lv_aload_n hx hb dX4_fewest_108 rfl (lv_at hl 0 rfl) ?_
                      refine va_get (D := D) (ci := 4) (v := .ref (ad 1)) (C := RX4) (T := TX4) (N := 12) hx hb hts hinX4 hown hK hP 0 mw_0 rfl 1 (by decide) (hts (.fieldLink RX4 7 "SquareGearsModel" "z" "[I") (by decide +kernel)) (fun _ h9 => h9) rfl dX4_fewest_109 ?_
                      refine lv_iload hx hb dX4_fewest_112 (lv_at hl 5 rfl) ?_
                      refine cx_iald (k := lw) hx hb hK hP 1 1 mw_1 rfl (by omega) (by decide) dX4_fewest_114 ?_
                      refine cx_ri (va_runS (As := [.int ((R 0) lw)]) (rest := [.int (abI ((R 0) k))]) ⟨hx, hb, hml, hown, hts⟩ (c_X4_amount l  ((R 0) lw)) (va_cwS 1 hts gX4_fewest_X4_amount rfl rfl rfl (by decide +kernel) ⟨Nat.le_of_ble_eq_true rfl, Nat.le_of_ble_eq_true rfl⟩) ⟨pc_blind, (fun U hU hW => ⟨rfl, trivial⟩)⟩ rfl rfl hl.1 rfl (lv_room (Nat.le_of_ble_eq_true rfl)) dX4_fewest_115 ⟨Nat.le_of_ble_eq_true rfl, Nat.le_of_ble_eq_true rfl⟩) hS hP (fun H locs hP hS => ?_)
                      refine lv_icmp_ge (tgt := 126) hx hb dX4_fewest_118 (by decide) (fun c_118 => ?_) (fun c_118 => ?_)
                      · refine lv_iload hx hb dX4_fewest_126 (lv_at hl 5 rfl) ?_
                        refine lv_istore (lv' := [(5, .int (nI lw)), (0, .ref (ad 0)), (1, .int x), (2, .int (nI my)), (3, .int left), (4, .int (nI g)), (6, .int (nI k))]) hx hb dX4_fewest_128 hl (by decide) rfl (fun ls hl => ?_)
                        refine lv_iinc (k := 6) (v := (nI (k + 1))) (lv' := [(6, .int (nI (k + 1))), (5, .int (nI lw)), (0, .ref (ad 0)), (1, .int x), (2, .int (nI my)), (3, .int left), (4, .int (nI g))]) hx hb dX4_fewest_130 hl rfl (nI_add k 1) (by decide) rfl (fun ls hl => ?_)
                        refine lv_goto (tgt := 76) hx hb dX4_fewest_133 (by decide) ?_
                        exact ih_76 (k + 1) (some (lw)) _ _ _ (by omega) (by omega) (ml_c hlo c_90 c_118) hP hS (lv_sub hl [2, 3, 4, 5, 6, 1, 0] rfl)
                      · refine lv_iload hx hb dX4_fewest_121 (lv_at hl 6 rfl) ?_
                        refine lv_goto (tgt := 128) hx hb dX4_fewest_123 (by decide) ?_
                        refine lv_istore (lv' := [(5, .int (nI k)), (0, .ref (ad 0)), (1, .int x), (2, .int (nI my)), (3, .int left), (4, .int (nI g)), (6, .int (nI k))]) hx hb dX4_fewest_128 hl (by decide) rfl (fun ls hl => ?_)
                        refine lv_iinc (k := 6) (v := (nI (k + 1))) (lv' := [(6, .int (nI (k + 1))), (5, .int (nI k)), (0, .ref (ad 0)), (1, .int x), (2, .int (nI my)), (3, .int left), (4, .int (nI g))]) hx hb dX4_fewest_130 hl rfl (nI_add k 1) (by decide) rfl (fun ls hl => ?_)
                        refine lv_goto (tgt := 76) hx hb dX4_fewest_133 (by decide) ?_
                        exact ih_76 (k + 1) (some (k)) _ _ _ (by omega) (by omega) (ml_d hlo c_90 c_118) hP hS (lv_sub hl [2, 3, 4, 5, 6, 1, 0] rfl)
    · have c_7 : ¬ (8 ≤ i) := fun h => c_7 ((nI_leI (a := 8) (b := i) (by omega) (by omega)).mpr h)
      refine lv_aload_n hx hb dX4_fewest_10 rfl (lv_at hl 0 rfl) ?_
      refine va_get (D := D) (ci := 4) (v := .ref (ad 6)) (C := RX4) (T := TX4) (N := 12) hx hb hts hinX4 hown hK hP 0 mw_0 rfl 11 (by decide) (hts (.fieldLink RX4 26 "SquareGearsModel" "isOut" "[Z") (by decide +kernel)) (fun _ h9 => h9) rfl dX4_fewest_11 ?_
      refine lv_iload_n hx hb dX4_fewest_14 rfl (lv_at hl 3 rfl) ?_
      refine lv_aload_n hx hb dX4_fewest_15 rfl (lv_at hl 0 rfl) ?_
      refine lv_iload_n hx hb dX4_fewest_16 rfl (lv_at hl 3 rfl) ?_
      refine cx_ri (va_runV (As := [.int (nI i)]) (rest := [.int (nI i), .ref (ad 6)]) ⟨hx, hb, hml, hown, hts⟩ (c_X4_used l D T ad I (updR R 5 f) i (by omega)) (cwV 1 hts gX4_fewest_X4_used rfl rfl rfl (by decide +kernel) ⟨Nat.le_of_ble_eq_true rfl, Nat.le_of_ble_eq_true rfl⟩) ⟨MR.blind, va_recv hK hP (ci := 4) (q0 := 0) rfl mw_0, (MR.pre hP hK rfl)⟩ rfl rfl hl.1 rfl (lv_room (Nat.le_of_ble_eq_true rfl)) dX4_fewest_17 ⟨Nat.le_of_ble_eq_true rfl, Nat.le_of_ble_eq_true rfl⟩) hS hP (fun H locs hP hS => ?_)
      refine lv_if_ne (tgt := 27) hx hb dX4_fewest_20 (by decide) (fun c_20 => ?_) (fun c_20 => ?_)
      · refine lv_iconst (v := 0) hx hb dX4_fewest_27 (by decide) ?_
        refine cx_zast (k := i) hx hb hK hP (hD _ _) hS 6 2 mw_6 rfl (by omega) (by decide) (rfl) mw_R5 dX4_fewest_28 (fun H locs hP hS => ?_)
        refine lv_iload_n hx hb dX4_fewest_29 rfl (lv_at hl 2 rfl) ?_
        refine lv_aload_n hx hb dX4_fewest_30 rfl (lv_at hl 0 rfl) ?_
        refine va_get (D := D) (ci := 4) (v := .ref (ad 6)) (C := RX4) (T := TX4) (N := 12) hx hb hts hinX4 hown hK hP 0 mw_0 rfl 11 (by decide) (hts (.fieldLink RX4 26 "SquareGearsModel" "isOut" "[Z") (by decide +kernel)) (fun _ h9 => h9) rfl dX4_fewest_31 ?_
        refine lv_iload_n hx hb dX4_fewest_34 rfl (lv_at hl 3 rfl) ?_
        refine cx_zald (k := i) hx hb hK hP 6 2 mw_6 rfl (by omega) (by decide) dX4_fewest_35 ?_
        refine cx_top (show ((upd f i 0) i) = 0 from by simp [upd]) ?_
        refine lv_if_eq (tgt := 43) hx hb dX4_fewest_36 (by decide) (fun c_36 => ?_) (fun c_36 => absurd c_36 (by decide))
        refine lv_iconst (v := 1) hx hb dX4_fewest_43 (by decide) ?_
        refine lv_iadd hx hb dX4_fewest_44 ?_
        refine cx_top (nI_add my 1) ?_
        refine lv_istore_n (lv' := [(2, .int (nI (my + 1))), (0, .ref (ad 0)), (1, .int x), (3, .int (nI i))]) hx hb dX4_fewest_45 rfl hl (by decide) rfl (fun ls hl => ?_)
        refine lv_iinc (k := 3) (v := (nI (i + 1))) (lv' := [(3, .int (nI (i + 1))), (2, .int (nI (my + 1))), (0, .ref (ad 0)), (1, .int x)]) hx hb dX4_fewest_46 hl rfl (nI_add i 1) (by decide) rfl (fun ls hl => ?_)
        refine lv_goto (tgt := 4) hx hb dX4_fewest_49 (by decide) ?_
        exact ih_4 (i + 1) (upd f i 0) (my + 1) _ _ _ (by omega) (by omega) (up_at hf (om_f c_20)) (zo_f hmy c_20) (m_upd hP) hS (lv_sub hl [2, 3, 1, 0] rfl)
      · refine lv_iconst (v := 1) hx hb dX4_fewest_23 (by decide) ?_
        refine lv_goto (tgt := 28) hx hb dX4_fewest_24 (by decide) ?_
        refine cx_zast (k := i) hx hb hK hP (hD _ _) hS 6 2 mw_6 rfl (by omega) (by decide) (rfl) mw_R5 dX4_fewest_28 (fun H locs hP hS => ?_)
        refine lv_iload_n hx hb dX4_fewest_29 rfl (lv_at hl 2 rfl) ?_
        refine lv_aload_n hx hb dX4_fewest_30 rfl (lv_at hl 0 rfl) ?_
        refine va_get (D := D) (ci := 4) (v := .ref (ad 6)) (C := RX4) (T := TX4) (N := 12) hx hb hts hinX4 hown hK hP 0 mw_0 rfl 11 (by decide) (hts (.fieldLink RX4 26 "SquareGearsModel" "isOut" "[Z") (by decide +kernel)) (fun _ h9 => h9) rfl dX4_fewest_31 ?_
        refine lv_iload_n hx hb dX4_fewest_34 rfl (lv_at hl 3 rfl) ?_
        refine cx_zald (k := i) hx hb hK hP 6 2 mw_6 rfl (by omega) (by decide) dX4_fewest_35 ?_
        refine cx_top (show ((upd f i 1) i) = 1 from by simp [upd]) ?_
        refine lv_if_eq (tgt := 43) hx hb dX4_fewest_36 (by decide) (fun c_36 => absurd c_36 (by decide)) (fun c_36 => ?_)
        refine lv_iconst (v := 0) hx hb dX4_fewest_39 (by decide) ?_
        refine lv_goto (tgt := 44) hx hb dX4_fewest_40 (by decide) ?_
        refine lv_iadd hx hb dX4_fewest_44 ?_
        refine cx_top (nI_add my 0) ?_
        refine lv_istore_n (lv' := [(2, .int (nI (my + 0))), (0, .ref (ad 0)), (1, .int x), (3, .int (nI i))]) hx hb dX4_fewest_45 rfl hl (by decide) rfl (fun ls hl => ?_)
        refine lv_iinc (k := 3) (v := (nI (i + 1))) (lv' := [(3, .int (nI (i + 1))), (2, .int (nI (my + 0))), (0, .ref (ad 0)), (1, .int x)]) hx hb dX4_fewest_46 hl rfl (nI_add i 1) (by decide) rfl (fun ls hl => ?_)
        refine lv_goto (tgt := 4) hx hb dX4_fewest_49 (by decide) ?_
        exact ih_4 (i + 1) (upd f i 1) (my + 0) _ _ _ (by omega) (by omega) (up_at hf (om_t c_20)) (zo_t hmy c_20) (m_upd hP) hS (lv_sub hl [2, 3, 1, 0] rfl)
set_option maxHeartbeats 4000000 in
set_option maxRecDepth 100000 in
theorem c_X4_enough (l : Launch) (D : va_G) (T : Nat → ClassId) (ad : Nat → Nat) (I : Nat → Int32) (R : Nat → Nat → Int32) (sz : Nat) (x : Int32) (w : Nat) (hAD : AD 7 ad) (hx9 : outI x 0 9999999 = 0) (hw : w < 2) : Met l yX4_enough wsX4_enough ({ frames := 2, cells := 0, slots := 0, locals := 47 }) (va_Pc [.ref (ad 0), .int x, .int (nI w)] (MB D T ad I R sz)) (va_Qi (fun r (o : Nat → Int32) => r = (nI (fmF (R 0) x)) ∧ True) (fun (o : Nat → Int32) t => va_P D vwCl (mw T ad (upd I 0 0) (updR R 5 o)) t.heap) (cA 7 ad sz)) 0 0 (cA 7 ad sz) := by
  refine Met.ofW (cc := cX4_enough) (maxL := 3) (ret := (some .int)) (by decide) rfl ?_
  intro p e s m args_ below meth c s₁ B hml hv
  obtain ⟨rfl, hsz, hP, hK⟩ := hv
  have hx := B.exec
  have hb := B.bytes
  have hr := B.returns
  have hts := atoms_spec (ws := wsX4_enough) B.pre
  have hown : s.vm.findClass RX4 = some m.cls := findClass_of_methodNamed B.named
  have hlocks := B.notSynchronized
  have hinX4 : ∀ w ∈ u_ws RX4 TX4 12, w ∈ wsX4_enough := by decide +kernel
  subst hsz
  have hS : va_S (cA 7 ad s.heap.size) s.heap s.heap [] := va_S.rf
  have hD : ∀ I R, va_D (cA 7 ad s.heap.size) (mw T ad I R) := fun I R => mw_D hAD (fun k hk => cA_in hk)
  have hl := lv_entry ([.ref (ad 0), .int x, .int (nI w)]) (n := 3) (Nat.le_of_ble_eq_true rfl)
  rw [lg_entry_eq]
  generalize (lg_sl ([.ref (ad 0), .int x, .int (nI w)]) ++ List.replicate (3 - (lg_sl ([.ref (ad 0), .int x, .int (nI w)])).length) Slot.unset).toArray = ls at hl ⊢
  have hl : lv_has ls 3 [(0, .ref (ad 0)), (1, .int x), (2, .int (nI w))] := hl
  refine lv_aload_n hx hb dX4_enough_0 rfl (lv_at hl 0 rfl) ?_
  refine lv_iload_n hx hb dX4_enough_1 rfl (lv_at hl 1 rfl) ?_
  refine lv_iconst (v := 0) hx hb dX4_enough_2 (by decide) ?_
  refine lv_ldc (v := 9999999) hx hb hown (hts (.constant RX4 129 (9999999)) (by decide +kernel)) dX4_enough_3 ?_
  refine cx_ri (va_runS (As := [.int x, .int 0, .int 9999999]) (rest := [.ref (ad 0)]) ⟨hx, hb, hml, hown, hts⟩ (c_X4_in l  x 0 9999999) (va_cwS 3 hts gX4_enough_X4_in rfl rfl rfl (by decide +kernel) ⟨Nat.le_of_ble_eq_true rfl, Nat.le_of_ble_eq_true rfl⟩) ⟨pc_blind, (fun U hU hW => ⟨rfl, trivial⟩)⟩ rfl rfl hl.1 rfl (lv_room (Nat.le_of_ble_eq_true rfl)) dX4_enough_5 ⟨Nat.le_of_ble_eq_true rfl, Nat.le_of_ble_eq_true rfl⟩) hS hP (fun H locs hP hS => ?_)
  refine cx_top (show (inI x 0 9999999) = 1 from in_of0 hx9) ?_
  refine lv_if_eq (tgt := 24) hx hb dX4_enough_8 (by decide) (fun c_8 => absurd c_8 (by decide)) (fun c_8 => ?_)
  refine lv_iload_n hx hb dX4_enough_11 rfl (lv_at hl 2 rfl) ?_
  refine lv_iconst (v := 0) hx hb dX4_enough_12 (by decide) ?_
  refine lv_iconst (v := 1) hx hb dX4_enough_13 (by decide) ?_
  refine cx_ri (va_runS (As := [.int (nI w), .int 0, .int 1]) (rest := [.ref (ad 0)]) ⟨hx, hb, hml, hown, hts⟩ (c_X4_in l  (nI w) 0 1) (va_cwS 3 hts gX4_enough_X4_in rfl rfl rfl (by decide +kernel) ⟨Nat.le_of_ble_eq_true rfl, Nat.le_of_ble_eq_true rfl⟩) ⟨pc_blind, (fun U hU hW => ⟨rfl, trivial⟩)⟩ rfl rfl hl.1 rfl (lv_room (Nat.le_of_ble_eq_true rfl)) dX4_enough_14 ⟨Nat.le_of_ble_eq_true rfl, Nat.le_of_ble_eq_true rfl⟩) hS hP (fun H locs hP hS => ?_)
  refine cx_top (show (inI (nI w) 0 1) = 1 from in_of0 (out_k (n := 1) (by omega) (by decide))) ?_
  refine lv_if_eq (tgt := 24) hx hb dX4_enough_17 (by decide) (fun c_17 => absurd c_17 (by decide)) (fun c_17 => ?_)
  refine lv_iconst (v := 0) hx hb dX4_enough_20 (by decide) ?_
  refine lv_goto (tgt := 25) hx hb dX4_enough_21 (by decide) ?_
  refine cx_put (D := D) (ci := 4) (v := 0) (ty := .int) (C := RX4) (T := TX4) (N := 12) hx hb hts hinX4 tyX4 tyX4_ok nmX4 hown hK hP (hD _ _) hS 0 mw_0 rfl 0 (by decide) (hts (.fieldLink RX4 29 "SquareGearsModel" "thrown" "I") (by decide +kernel)) (fun _ h9 => h9) rfl (by decide +kernel) rfl rfl (Nat.le_of_ble_eq_true rfl) mw_I0 dX4_enough_25 (fun H locs hP hS => ?_)
  refine lv_aload_n hx hb dX4_enough_28 rfl (lv_at hl 0 rfl) ?_
  refine va_get (D := D) (ci := 4) (v := .int 0) (C := RX4) (T := TX4) (N := 12) hx hb hts hinX4 hown hK hP 0 mw_0 rfl 0 (by decide) (hts (.fieldLink RX4 29 "SquareGearsModel" "thrown" "I") (by decide +kernel)) (fun _ h9 => h9) rfl dX4_enough_29 ?_
  refine lv_if_le (tgt := 39) hx hb dX4_enough_32 (by decide) (fun c_32 => ?_) (fun c_32 => absurd c_32 (by decide))
  refine lv_aload_n hx hb dX4_enough_39 rfl (lv_at hl 0 rfl) ?_
  refine lv_iload_n hx hb dX4_enough_40 rfl (lv_at hl 1 rfl) ?_
  refine cx_wi (va_runV (As := [.int x]) (rest := []) ⟨hx, hb, hml, hown, hts⟩ (c_X4_fewest l D T ad (upd I 0 0) R _ x (hAD)) (cwV 1 hts gX4_enough_X4_fewest rfl rfl rfl (by decide +kernel) ⟨Nat.le_of_ble_eq_true rfl, Nat.le_of_ble_eq_true rfl⟩) ⟨MB.blind, va_recv hK hP (ci := 4) (q0 := 0) rfl mw_0, (MB.pre hP hK rfl)⟩ rfl rfl hl.1 rfl (lv_room (Nat.le_of_ble_eq_true rfl)) dX4_enough_41 ⟨Nat.le_of_ble_eq_true rfl, Nat.le_of_ble_eq_true rfl⟩) hS (cA_le hS.1) (cA_le hS.1) (fun u_41 H locs hu_41 hP hkk hS => ?_)
  exact W.iret (v := (nI (fmF ((R 0)) x))) hx hb hr (fun t ht hW => ⟨⟨(nI (fmF ((R 0)) x)), u_41, rfl, ⟨rfl, trivial⟩, by show va_P _ _ _ _; rw [ht]; exact hP⟩, hS.F ht⟩) hS.2.2 dX4_enough_44

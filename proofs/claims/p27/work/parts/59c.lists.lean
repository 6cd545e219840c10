set_option maxRecDepth 20000 in
theorem xin_wsL_law0_r9 : ∀ w ∈ wsL_law0_r9, w ∈ lw_tbl := fun w h => (goodIn_p wsL_law0_r9 [420, 424, 427, 432, 437] (by decide +kernel) (by decide +kernel) w h).1
set_option maxRecDepth 20000 in
theorem xin_wsL_law0_r10 : ∀ w ∈ wsL_law0_r10, w ∈ lw_tbl := fun w h => (goodIn_p wsL_law0_r10 [443, 447, 451, 455, 459, 463, 467] (by decide +kernel) (by decide +kernel) w h).1
set_option maxRecDepth 20000 in
theorem xin_wsL_law0_r11 : ∀ w ∈ wsL_law0_r11, w ∈ lw_tbl := fun w h => (goodIn_p wsL_law0_r11 [285, 305, 309] (by decide +kernel) (by decide +kernel) w h).1
def xr12a : List Cond := [Cond.methodLink RX0 25 arraycopyName, Cond.native arraycopyName, Cond.static arraycopyName, Cond.initialized "java/lang/System", Cond.methodLink RL 130 yL_cell, Cond.static yL_cell, Cond.code yL_cell cL_cell 2 (some .int), Cond.constant RL 7 (1955562222), Cond.methodLink RL 134 yL_act, Cond.static yL_act]
def xr12b : List Cond := [Cond.methodLink RL 94 yL_low, Cond.static yL_low, Cond.code yL_low cL_low 2 (some .int), Cond.constant RL 8 (2147483647), Cond.methodLink RL 97 yL_set, Cond.static yL_set, Cond.codeWith yL_set cL_set 5 (some .int) [(0, 7, 10, 15), (0, 7, 15, 17)], Cond.methodLink RL 9 yX3_set, Cond.instanceMethod yX3_set, Cond.selects RX3 yX3_set yX3_set, Cond.code yX3_set cX3_set 4 (some .int), Cond.instanceMethod yX1_push, Cond.selects RX1 yX1_push yX1_push]
set_option maxRecDepth 20000 in
theorem xin_wsL_law0_r12 : ∀ w ∈ wsL_law0_r12, w ∈ lw_tbl := fun w h => (List.mem_append.mp (show w ∈ xr12a ++ ([Cond.code yL_act cL_act 14 (some .boolean)] ++ xr12b) from h)).elim (fun h => (goodIn_p xr12a [272] (by decide +kernel) (by decide +kernel) w h).1) (fun h => (List.mem_append.mp h).elim (fun h => by rw [List.mem_singleton.mp h]; exact List.mem_of_getElem? (i := 477) rfl) (fun h => (goodIn_p xr12b [276, 484] (by decide +kernel) (by decide +kernel) w h).1))

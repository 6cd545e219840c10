theorem ggp_act_h : GoodIn wsL_law [.code yL_act cL_act 14 (some .boolean)] := goodIn_sub (fun w h => by rw [List.mem_singleton.mp h]; exact (List.mem_append_left _ (List.mem_append_left _ (List.mem_append_left _ (List.mem_append_left _ (List.mem_append_left _ (List.mem_append_left _ (List.mem_append_left _ (List.mem_append_left _ (List.mem_append_right _ (List.mem_append_right _ (List.mem_append_right _ (List.mem_append_right _ (List.mem_append_right _ (List.mem_append_right _ (List.mem_append_right _ (List.mem_append_right _ (List.mem_append_right _ (List.mem_append_right _ (List.mem_append_right _ (List.mem_append_left _ (List.mem_of_getElem? (i := 10) rfl)))))))))))))))))))))) (by decide +kernel)
set_option maxRecDepth 20000 in
theorem ggp_act_0 : GoodIn wsL_law wsL_act_r1 := goodIn_r _ [3, 275, 276, 48, 277, 278, 279, 280, 281, 247, 243, 282, 283, 284, 2, 285, 60, 61, 62, 63, 20, 14, 64, 65] (by decide +kernel) (by decide +kernel)
set_option maxRecDepth 20000 in
theorem ggp_act_1 : GoodIn wsL_law wsL_act_r2 := goodIn_r _ [66, 67, 68, 69, 286, 19, 287, 288, 37, 38, 39, 289, 134, 119, 135, 261, 13, 262, 263, 29, 264, 265, 266, 267] (by decide +kernel) (by decide +kernel)
set_option maxRecDepth 20000 in
theorem ggp_act_2 : GoodIn wsL_law wsL_act_r3 := goodIn_r _ [30, 31, 32, 290, 291, 292, 293, 294, 295, 296, 74, 75, 76, 53, 54, 55, 297, 298, 299, 300, 301, 302, 303, 96] (by decide +kernel) (by decide +kernel)
set_option maxRecDepth 20000 in
theorem ggp_act_3 : GoodIn wsL_law wsL_act_r4 := goodIn_r _ [80, 81, 82, 83, 84, 85, 86, 87, 88, 158, 159, 160, 188, 189, 190, 304, 305, 306, 307, 308, 309, 310, 140, 141] (by decide +kernel) (by decide +kernel)
set_option maxRecDepth 20000 in
theorem ggp_act_4 : GoodIn wsL_law wsL_act_r5 := goodIn_r _ [142, 311, 312, 313, 314, 315, 316, 317, 318, 319, 320, 321, 121, 122, 123, 124, 125, 126, 127, 128, 50, 51, 52, 97] (by decide +kernel) (by decide +kernel)
set_option maxRecDepth 20000 in
theorem ggp_act_5 : GoodIn wsL_law wsL_act_r6 := goodIn_r _ [98, 99, 100, 101, 322, 323, 324, 325, 133, 117, 118, 120, 77, 78, 79, 89, 90, 91, 92] (by decide +kernel) (by decide +kernel)
set_option maxRecDepth 20000 in
theorem ggp_act_wsX30 : GoodIn wsL_law wsX30 := goodIn_r _ [338, 339, 340, 341, 342, 343] (by decide +kernel) (by decide +kernel)
set_option maxRecDepth 20000 in
theorem ggp_act_wsX00 : GoodIn wsL_law wsX00 := goodIn_r _ [344, 345, 346, 347] (by decide +kernel) (by decide +kernel)
set_option maxRecDepth 20000 in
theorem ggp_act_wsX10 : GoodIn wsL_law wsX10 := goodIn_r _ [348, 349, 350] (by decide +kernel) (by decide +kernel)
set_option maxRecDepth 20000 in
theorem ggL_law_L_act : GoodIn wsL_law wsL_act := goodIn_app (a := [.code yL_act cL_act 14 (some .boolean)]) ggp_act_h (goodIn_app (goodIn_app (goodIn_app (goodIn_app (goodIn_app (goodIn_app ggp_act_0 (goodIn_app ggp_act_1 (goodIn_app ggp_act_2 (goodIn_app ggp_act_3 (goodIn_app ggp_act_4 ggp_act_5))))) ggp_act_wsX30) ggp_act_wsX00) ggp_act_wsX10) (goodIn_sub (fun _ h => List.mem_append_left _ (List.mem_append_left _ (List.mem_append_right _ h))) (by decide +kernel))) (goodIn_sub (fun _ h => List.mem_append_left _ (List.mem_append_right _ h)) (by decide +kernel)))
set_option maxRecDepth 20000 in
theorem gL_law_L_act : GoodIn wsL_law (va_wsS RL 134 yL_act wsL_act) := goodIn_app (goodIn_of _ (by decide +kernel)) ggL_law_L_act
set_option maxRecDepth 20000 in
theorem ggL_law_L_draw : GoodIn wsL_law wsL_draw := goodIn_r _ [328, 50, 51, 48, 52] (by decide +kernel) (by decide +kernel)
set_option maxRecDepth 20000 in
theorem gL_law_L_draw : GoodIn wsL_law (va_wsS RL 138 yL_draw wsL_draw) := goodIn_app (goodIn_of _ (by decide +kernel)) ggL_law_L_draw
set_option maxRecDepth 20000 in
theorem ggL_law_X3_count : GoodIn wsL_law wsX3_count := goodIn_ca (goodIn_r _ [105, 62, 63, 67, 68, 2, 69, 106, 107, 108, 109, 14, 20, 110, 13, 111, 112, 29, 82, 83, 84, 85, 86, 87, 88, 113, 114, 115, 116, 117, 118, 119, 120, 121, 122, 123, 124, 125, 126, 127, 128, 74, 75, 76, 31, 80, 81, 129, 130, 131, 132, 133, 134, 135, 136, 137, 138, 139, 140, 141, 142, 143, 144, 145, 30, 146, 147, 148, 149, 150, 151, 152, 153, 154, 155, 156, 157, 338, 339, 340, 341, 342, 343, 344, 345, 346, 347, 348, 349, 350] (by decide +kernel) (by decide +kernel)) (goodIn_sub (fun _ h => List.mem_append_left _ (List.mem_append_right _ h)) (by decide +kernel))
set_option maxRecDepth 20000 in
theorem gL_law_X3_count : GoodIn wsL_law (wsV RL 67 RX3 yX3_count wsX3_count) := goodIn_app (goodIn_of _ (by decide +kernel)) ggL_law_X3_count
set_option maxRecDepth 20000 in
theorem ggL_law_L_low : GoodIn wsL_law wsL_low := goodIn_r _ [277, 278] (by decide +kernel) (by decide +kernel)
set_option maxRecDepth 20000 in
theorem gL_law_L_low : GoodIn wsL_law (va_wsS RL 94 yL_low wsL_low) := goodIn_app (goodIn_of _ (by decide +kernel)) ggL_law_L_low
set_option maxRecDepth 20000 in
theorem ggL_law_L_wheelOf : GoodIn wsL_law wsL_wheelOf := goodIn_ca (goodIn_ca (goodIn_r _ [331, 247, 243, 56, 57, 58, 2, 59, 60, 61, 62, 63, 64, 65, 66, 67, 68, 69, 70, 71, 72, 73, 14, 74, 13, 75, 76, 31, 77, 78, 79, 30, 80, 81, 82, 83, 84, 85, 86, 87, 88, 89, 90, 91, 92, 93, 94, 95, 96, 338, 339, 340, 341, 342, 343, 344, 345, 346, 347] (by decide +kernel) (by decide +kernel)) (goodIn_sub (fun _ h => List.mem_append_left _ (List.mem_append_left _ (List.mem_append_right _ h))) (by decide +kernel))) (goodIn_sub (fun _ h => List.mem_append_left _ (List.mem_append_right _ h)) (by decide +kernel))
set_option maxRecDepth 20000 in
theorem gL_law_L_wheelOf : GoodIn wsL_law (va_wsS RL 143 yL_wheelOf wsL_wheelOf) := goodIn_app (goodIn_of _ (by decide +kernel)) ggL_law_L_wheelOf
set_option maxRecDepth 20000 in
theorem ggL_law_L_trace : GoodIn wsL_law wsL_trace := goodIn_ca (goodIn_ca (goodIn_r _ [334, 247, 243, 168, 169, 170, 2, 171, 60, 61, 62, 63, 64, 65, 66, 67, 68, 69, 172, 173, 174, 175, 14, 25, 121, 13, 122, 123, 124, 125, 126, 127, 29, 128, 74, 75, 76, 31, 80, 81, 82, 83, 84, 85, 86, 87, 88, 176, 177, 178, 179, 338, 339, 340, 341, 342, 343, 344, 345, 346, 347] (by decide +kernel) (by decide +kernel)) (goodIn_sub (fun _ h => List.mem_append_left _ (List.mem_append_left _ (List.mem_append_right _ h))) (by decide +kernel))) (goodIn_sub (fun _ h => List.mem_append_left _ (List.mem_append_right _ h)) (by decide +kernel))
set_option maxRecDepth 20000 in
theorem gL_law_L_trace : GoodIn wsL_law (va_wsS RL 145 yL_trace wsL_trace) := goodIn_app (goodIn_of _ (by decide +kernel)) ggL_law_L_trace
set_option maxRecDepth 20000 in
theorem ggL_law_L_pointOf : GoodIn wsL_law wsL_pointOf := goodIn_ca (goodIn_ca (goodIn_r _ [337, 247, 243, 180, 181, 182, 2, 183, 60, 61, 62, 63, 64, 65, 66, 67, 68, 69, 184, 185, 186, 187, 14, 143, 13, 144, 145, 30, 146, 121, 122, 123, 124, 125, 126, 127, 29, 128, 74, 75, 76, 31, 80, 81, 82, 83, 84, 85, 86, 87, 88, 151, 152, 153, 338, 339, 340, 341, 342, 343, 344, 345, 346, 347] (by decide +kernel) (by decide +kernel)) (goodIn_sub (fun _ h => List.mem_append_left _ (List.mem_append_left _ (List.mem_append_right _ h))) (by decide +kernel))) (goodIn_sub (fun _ h => List.mem_append_left _ (List.mem_append_right _ h)) (by decide +kernel))
set_option maxRecDepth 20000 in
theorem gL_law_L_pointOf : GoodIn wsL_law (va_wsS RL 147 yL_pointOf wsL_pointOf) := goodIn_app (goodIn_of _ (by decide +kernel)) ggL_law_L_pointOf

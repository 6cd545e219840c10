set_option maxRecDepth 20000 in
theorem ggL_act_L_low : GoodIn wsL_act wsL_low := goodIn_r _ [5, 6] (by decide +kernel) (by decide +kernel)
set_option maxRecDepth 20000 in
theorem gL_act_L_low : GoodIn wsL_act (va_wsS RL 94 yL_low wsL_low) := goodIn_app (goodIn_of _ (by decide +kernel)) ggL_act_L_low
set_option maxRecDepth 20000 in
theorem ggL_act_L_set : GoodIn wsL_act wsL_set := goodIn_ca (goodIn_ca (goodIn_r _ [9, 10, 11, 12, 13, 14, 15, 16, 17, 18, 19, 20, 21, 22, 23, 24, 25, 26, 27, 28, 29, 30, 31, 32, 33, 34, 35, 36, 37, 38, 39, 40, 41, 42, 43, 44, 45, 46, 47, 48, 49, 50, 51, 140, 141, 142, 143, 144, 145, 146, 147, 148, 149, 150, 151, 152] (by decide +kernel) (by decide +kernel)) (goodIn_sub (fun _ h => List.mem_cons_of_mem _ (List.mem_append_left _ (List.mem_append_right _ h))) (by decide +kernel))) (goodIn_sub (fun _ h => List.mem_cons_of_mem _ (List.mem_append_right _ h)) (by decide +kernel))
set_option maxRecDepth 20000 in
theorem gL_act_L_set : GoodIn wsL_act (va_wsS RL 97 yL_set wsL_set) := goodIn_app (goodIn_of _ (by decide +kernel)) ggL_act_L_set
set_option maxRecDepth 20000 in
theorem ggL_act_L_lose : GoodIn wsL_act wsL_lose := goodIn_ca (goodIn_r _ [54, 10, 55, 56, 57, 15, 58, 17, 18, 21, 22, 23, 24, 25, 26, 27, 28, 29, 30, 31, 32, 33, 34, 35, 36, 37, 38, 39, 40, 41, 42, 43, 44, 45, 46, 47, 48, 49, 50, 51, 59, 60, 61, 140, 141, 142, 143, 144, 145, 146, 147, 148, 149, 150, 151, 152] (by decide +kernel) (by decide +kernel)) (goodIn_sub (fun _ h => List.mem_cons_of_mem _ (List.mem_append_left _ (List.mem_append_right _ h))) (by decide +kernel))
set_option maxRecDepth 20000 in
theorem gL_act_L_lose : GoodIn wsL_act (va_wsS RL 99 yL_lose wsL_lose) := goodIn_app (goodIn_of _ (by decide +kernel)) ggL_act_L_lose
set_option maxRecDepth 20000 in
theorem ggL_act_L_wave : GoodIn wsL_act wsL_wave := goodIn_r _ [64] (by decide +kernel) (by decide +kernel)
set_option maxRecDepth 20000 in
theorem gL_act_L_wave : GoodIn wsL_act (va_wsS RL 61 yL_wave wsL_wave) := goodIn_app (goodIn_of _ (by decide +kernel)) ggL_act_L_wave
set_option maxRecDepth 20000 in
theorem ggL_act_L_turn : GoodIn wsL_act wsL_turn := goodIn_ca (goodIn_r _ [67, 11, 68, 69, 70, 15, 71, 19, 20, 21, 22, 23, 24, 25, 26, 27, 28, 29, 30, 31, 32, 33, 34, 35, 36, 37, 38, 39, 40, 41, 42, 43, 44, 45, 46, 47, 48, 49, 50, 51, 72, 73, 74, 75, 76, 77, 78, 79, 80, 81, 140, 141, 142, 143, 144, 145, 146, 147, 148, 149, 150, 151, 152] (by decide +kernel) (by decide +kernel)) (goodIn_sub (fun _ h => List.mem_cons_of_mem _ (List.mem_append_right _ h)) (by decide +kernel))
set_option maxRecDepth 20000 in
theorem gL_act_L_turn : GoodIn wsL_act (va_wsS RL 102 yL_turn wsL_turn) := goodIn_app (goodIn_of _ (by decide +kernel)) ggL_act_L_turn
set_option maxRecDepth 20000 in
theorem ggL_act_L_turning : GoodIn wsL_act wsL_turning := goodIn_r _ [84] (by decide +kernel) (by decide +kernel)
set_option maxRecDepth 20000 in
theorem gL_act_L_turning : GoodIn wsL_act (va_wsS RL 70 yL_turning wsL_turning) := goodIn_app (goodIn_of _ (by decide +kernel)) ggL_act_L_turning
set_option maxRecDepth 20000 in
theorem ggL_act_L_amount : GoodIn wsL_act wsL_amount := goodIn_r _ [87] (by decide +kernel) (by decide +kernel)
set_option maxRecDepth 20000 in
theorem gL_act_L_amount : GoodIn wsL_act (va_wsS RL 78 yL_amount wsL_amount) := goodIn_app (goodIn_of _ (by decide +kernel)) ggL_act_L_amount
set_option maxRecDepth 20000 in
theorem ggL_act_L_drop : GoodIn wsL_act wsL_drop := goodIn_ca (goodIn_r _ [90, 11, 91, 92, 93, 15, 94, 19, 20, 21, 22, 95, 96, 38, 97, 26, 27, 28, 29, 30, 31, 32, 33, 34, 35, 36, 37, 39, 40, 41, 42, 43, 44, 45, 46, 47, 48, 49, 50, 51, 140, 141, 142, 143, 144, 145, 146, 147, 148, 149, 150, 151, 152] (by decide +kernel) (by decide +kernel)) (goodIn_sub (fun _ h => List.mem_cons_of_mem _ (List.mem_append_right _ h)) (by decide +kernel))
set_option maxRecDepth 20000 in
theorem gL_act_L_drop : GoodIn wsL_act (va_wsS RL 104 yL_drop wsL_drop) := goodIn_app (goodIn_of _ (by decide +kernel)) ggL_act_L_drop
set_option maxRecDepth 20000 in
theorem ggL_act_L_point : GoodIn wsL_act wsL_point := goodIn_ca (goodIn_ca (goodIn_r _ [100, 10, 11, 101, 102, 103, 15, 104, 17, 18, 19, 20, 21, 22, 23, 24, 25, 26, 27, 28, 29, 30, 31, 32, 33, 34, 35, 36, 37, 38, 39, 40, 41, 42, 43, 44, 45, 46, 47, 48, 49, 50, 51, 140, 141, 142, 143, 144, 145, 146, 147, 148, 149, 150, 151, 152] (by decide +kernel) (by decide +kernel)) (goodIn_sub (fun _ h => List.mem_cons_of_mem _ (List.mem_append_left _ (List.mem_append_right _ h))) (by decide +kernel))) (goodIn_sub (fun _ h => List.mem_cons_of_mem _ (List.mem_append_right _ h)) (by decide +kernel))
set_option maxRecDepth 20000 in
theorem gL_act_L_point : GoodIn wsL_act (va_wsS RL 106 yL_point wsL_point) := goodIn_app (goodIn_of _ (by decide +kernel)) ggL_act_L_point
set_option maxRecDepth 20000 in
theorem ggL_act_X3_copy : GoodIn wsL_act wsX3_copy := goodIn_r _ [108, 21, 22, 29, 30, 31, 32, 33, 34, 35, 36, 37, 38, 39, 40, 41, 42, 43, 44, 45, 46, 47, 48, 49, 50, 51, 109, 110, 111, 112, 113, 114, 115, 116, 59, 60, 61, 73, 15, 74, 75, 76, 77, 78, 79, 80, 81, 140, 141, 142, 143, 144, 145, 146, 147, 148, 149, 150, 151, 152] (by decide +kernel) (by decide +kernel)
set_option maxRecDepth 20000 in
theorem gL_act_X3_copy : GoodIn wsL_act (wsV RL 108 RX3 yX3_copy wsX3_copy) := goodIn_app (goodIn_of _ (by decide +kernel)) ggL_act_X3_copy
set_option maxRecDepth 20000 in
theorem ggL_act_L_halves : GoodIn wsL_act wsL_halves := goodIn_r _ [119] (by decide +kernel) (by decide +kernel)
set_option maxRecDepth 20000 in
theorem gL_act_L_halves : GoodIn wsL_act (va_wsS RL 53 yL_halves wsL_halves) := goodIn_app (goodIn_of _ (by decide +kernel)) ggL_act_L_halves
set_option maxRecDepth 20000 in
theorem ggL_act_L_eighth : GoodIn wsL_act wsL_eighth := goodIn_r _ [122, 123, 124] (by decide +kernel) (by decide +kernel)
set_option maxRecDepth 20000 in
theorem gL_act_L_eighth : GoodIn wsL_act (va_wsS RL 64 yL_eighth wsL_eighth) := goodIn_app (goodIn_of _ (by decide +kernel)) ggL_act_L_eighth
set_option maxRecDepth 20000 in
theorem ggL_act_X3_fit : GoodIn wsL_act wsX3_fit := goodIn_r _ [128, 21, 22, 129, 37, 38, 39, 130, 131, 132, 29, 30, 31, 32, 33, 34, 35, 36, 40, 41, 42, 43, 44, 45, 46, 47, 48, 49, 50, 51, 133, 134, 135, 73, 15, 74, 75, 76, 77, 78, 79, 80, 81, 136, 137, 138, 139, 140, 141, 142, 143, 144, 145, 146, 147, 148, 149, 150, 151, 152] (by decide +kernel) (by decide +kernel)
set_option maxRecDepth 20000 in
theorem gL_act_X3_fit : GoodIn wsL_act (wsV RL 111 RX3 yX3_fit wsX3_fit) := goodIn_app (goodIn_of _ (by decide +kernel)) ggL_act_X3_fit
theorem dL_act_0 : decode cL_act 0 = .ok (.iload_n 1, 1) := by decide +kernel
theorem dL_act_1 : decode cL_act 1 = .ok (.bipush 16, 2) := by decide +kernel
theorem dL_act_3 : decode cL_act 3 = .ok (.invokestatic 94, 3) := by decide +kernel
theorem dL_act_6 : decode cL_act 6 = .ok (.istore 8, 2) := by decide +kernel
theorem dL_act_8 : decode cL_act 8 = .ok (.iload_n 2, 1) := by decide +kernel
theorem dL_act_9 : decode cL_act 9 = .ok (.bipush 8, 2) := by decide +kernel
theorem dL_act_11 : decode cL_act 11 = .ok (.invokestatic 94, 3) := by decide +kernel
theorem dL_act_14 : decode cL_act 14 = .ok (.istore 9, 2) := by decide +kernel
theorem dL_act_16 : decode cL_act 16 = .ok (.iload 8, 2) := by decide +kernel
theorem dL_act_18 : decode cL_act 18 = .ok (.iconst 5, 1) := by decide +kernel
theorem dL_act_19 : decode cL_act 19 = .ok (.if_icmp .ge 113, 3) := by decide +kernel
theorem dL_act_22 : decode cL_act 22 = .ok (.aload_n 3, 1) := by decide +kernel
theorem dL_act_23 : decode cL_act 23 = .ok (.iload 9, 2) := by decide +kernel
theorem dL_act_25 : decode cL_act 25 = .ok (.iaload, 1) := by decide +kernel
theorem dL_act_26 : decode cL_act 26 = .ok (.istore 10, 2) := by decide +kernel
theorem dL_act_28 : decode cL_act 28 = .ok (.aload_n 3, 1) := by decide +kernel
theorem dL_act_29 : decode cL_act 29 = .ok (.iload 9, 2) := by decide +kernel
theorem dL_act_31 : decode cL_act 31 = .ok (.iload_n 2, 1) := by decide +kernel
theorem dL_act_32 : decode cL_act 32 = .ok (.iconst 3, 1) := by decide +kernel
theorem dL_act_33 : decode cL_act 33 = .ok (.ishr, 1) := by decide +kernel
theorem dL_act_34 : decode cL_act 34 = .ok (.iload_n 2, 1) := by decide +kernel
theorem dL_act_35 : decode cL_act 35 = .ok (.bipush 20, 2) := by decide +kernel
theorem dL_act_37 : decode cL_act 37 = .ok (.ishr, 1) := by decide +kernel
theorem dL_act_38 : decode cL_act 38 = .ok (.iconst 1, 1) := by decide +kernel
theorem dL_act_39 : decode cL_act 39 = .ok (.iand, 1) := by decide +kernel
theorem dL_act_40 : decode cL_act 40 = .ok (.ifCond .ne 8, 3) := by decide +kernel
theorem dL_act_43 : decode cL_act 43 = .ok (.bipush 21, 2) := by decide +kernel
theorem dL_act_45 : decode cL_act 45 = .ok (.goto 6, 3) := by decide +kernel
theorem dL_act_48 : decode cL_act 48 = .ok (.sipush 199, 3) := by decide +kernel
theorem dL_act_51 : decode cL_act 51 = .ok (.invokestatic 94, 3) := by decide +kernel
theorem dL_act_54 : decode cL_act 54 = .ok (.iload_n 2, 1) := by decide +kernel
theorem dL_act_55 : decode cL_act 55 = .ok (.bipush 20, 2) := by decide +kernel
theorem dL_act_57 : decode cL_act 57 = .ok (.ishr, 1) := by decide +kernel
theorem dL_act_58 : decode cL_act 58 = .ok (.iconst 1, 1) := by decide +kernel
theorem dL_act_59 : decode cL_act 59 = .ok (.iand, 1) := by decide +kernel
theorem dL_act_60 : decode cL_act 60 = .ok (.ifCond .ne 8, 3) := by decide +kernel
theorem dL_act_63 : decode cL_act 63 = .ok (.bipush 10, 2) := by decide +kernel
theorem dL_act_65 : decode cL_act 65 = .ok (.goto 5, 3) := by decide +kernel
theorem dL_act_68 : decode cL_act 68 = .ok (.bipush 99, 2) := by decide +kernel
theorem dL_act_70 : decode cL_act 70 = .ok (.isub, 1) := by decide +kernel
theorem dL_act_71 : decode cL_act 71 = .ok (.iastore, 1) := by decide +kernel
theorem dL_act_72 : decode cL_act 72 = .ok (.aload_n 0, 1) := by decide +kernel
theorem dL_act_73 : decode cL_act 73 = .ok (.iload 9, 2) := by decide +kernel
theorem dL_act_75 : decode cL_act 75 = .ok (.aload_n 3, 1) := by decide +kernel
theorem dL_act_76 : decode cL_act 76 = .ok (.iload 9, 2) := by decide +kernel
theorem dL_act_78 : decode cL_act 78 = .ok (.iaload, 1) := by decide +kernel
theorem dL_act_79 : decode cL_act 79 = .ok (.invokestatic 97, 3) := by decide +kernel
theorem dL_act_82 : decode cL_act 82 = .ok (.iload 10, 2) := by decide +kernel
theorem dL_act_84 : decode cL_act 84 = .ok (.if_icmp .ne 46, 3) := by decide +kernel
theorem dL_act_87 : decode cL_act 87 = .ok (.aload_n 0, 1) := by decide +kernel
theorem dL_act_88 : decode cL_act 88 = .ok (.bipush 8, 2) := by decide +kernel
theorem dL_act_90 : decode cL_act 90 = .ok (.bipush 100, 2) := by decide +kernel
theorem dL_act_92 : decode cL_act 92 = .ok (.invokestatic 97, 3) := by decide +kernel
theorem dL_act_95 : decode cL_act 95 = .ok (.bipush (-31), 2) := by decide +kernel
theorem dL_act_97 : decode cL_act 97 = .ok (.if_icmp .ne 33, 3) := by decide +kernel
theorem dL_act_100 : decode cL_act 100 = .ok (.aload_n 0, 1) := by decide +kernel
theorem dL_act_101 : decode cL_act 101 = .ok (.iload 9, 2) := by decide +kernel
theorem dL_act_103 : decode cL_act 103 = .ok (.bipush 100, 2) := by decide +kernel
theorem dL_act_105 : decode cL_act 105 = .ok (.invokestatic 97, 3) := by decide +kernel
theorem dL_act_108 : decode cL_act 108 = .ok (.bipush (-32), 2) := by decide +kernel
theorem dL_act_110 : decode cL_act 110 = .ok (.if_icmp .ne 20, 3) := by decide +kernel
theorem dL_act_113 : decode cL_act 113 = .ok (.aload_n 0, 1) := by decide +kernel
theorem dL_act_114 : decode cL_act 114 = .ok (.iload 9, 2) := by decide +kernel
theorem dL_act_116 : decode cL_act 116 = .ok (.bipush (-100), 2) := by decide +kernel
theorem dL_act_118 : decode cL_act 118 = .ok (.invokestatic 97, 3) := by decide +kernel
theorem dL_act_121 : decode cL_act 121 = .ok (.bipush (-32), 2) := by decide +kernel
theorem dL_act_123 : decode cL_act 123 = .ok (.if_icmp .ne 7, 3) := by decide +kernel
theorem dL_act_126 : decode cL_act 126 = .ok (.iconst 1, 1) := by decide +kernel
theorem dL_act_127 : decode cL_act 127 = .ok (.goto 4, 3) := by decide +kernel
theorem dL_act_130 : decode cL_act 130 = .ok (.iconst 0, 1) := by decide +kernel
theorem dL_act_131 : decode cL_act 131 = .ok (.ireturn, 1) := by decide +kernel
theorem dL_act_132 : decode cL_act 132 = .ok (.iload 8, 2) := by decide +kernel
theorem dL_act_134 : decode cL_act 134 = .ok (.bipush 7, 2) := by decide +kernel
theorem dL_act_136 : decode cL_act 136 = .ok (.if_icmp .ge 45, 3) := by decide +kernel
theorem dL_act_139 : decode cL_act 139 = .ok (.aload 4, 2) := by decide +kernel
theorem dL_act_141 : decode cL_act 141 = .ok (.iload 9, 2) := by decide +kernel
theorem dL_act_143 : decode cL_act 143 = .ok (.iconst 1, 1) := by decide +kernel
theorem dL_act_144 : decode cL_act 144 = .ok (.aload 4, 2) := by decide +kernel
theorem dL_act_146 : decode cL_act 146 = .ok (.iload 9, 2) := by decide +kernel
theorem dL_act_148 : decode cL_act 148 = .ok (.iaload, 1) := by decide +kernel
theorem dL_act_149 : decode cL_act 149 = .ok (.isub, 1) := by decide +kernel
theorem dL_act_150 : decode cL_act 150 = .ok (.iastore, 1) := by decide +kernel
theorem dL_act_151 : decode cL_act 151 = .ok (.aload_n 0, 1) := by decide +kernel
theorem dL_act_152 : decode cL_act 152 = .ok (.iload 9, 2) := by decide +kernel
theorem dL_act_154 : decode cL_act 154 = .ok (.invokestatic 99, 3) := by decide +kernel
theorem dL_act_157 : decode cL_act 157 = .ok (.aload 4, 2) := by decide +kernel
theorem dL_act_159 : decode cL_act 159 = .ok (.iload 9, 2) := by decide +kernel
theorem dL_act_161 : decode cL_act 161 = .ok (.iaload, 1) := by decide +kernel
theorem dL_act_162 : decode cL_act 162 = .ok (.if_icmp .ne 17, 3) := by decide +kernel
theorem dL_act_165 : decode cL_act 165 = .ok (.aload_n 0, 1) := by decide +kernel
theorem dL_act_166 : decode cL_act 166 = .ok (.iconst (-1), 1) := by decide +kernel
theorem dL_act_167 : decode cL_act 167 = .ok (.invokestatic 99, 3) := by decide +kernel
theorem dL_act_170 : decode cL_act 170 = .ok (.bipush (-31), 2) := by decide +kernel
theorem dL_act_172 : decode cL_act 172 = .ok (.if_icmp .ne 7, 3) := by decide +kernel
theorem dL_act_175 : decode cL_act 175 = .ok (.iconst 1, 1) := by decide +kernel
theorem dL_act_176 : decode cL_act 176 = .ok (.goto 4, 3) := by decide +kernel
theorem dL_act_179 : decode cL_act 179 = .ok (.iconst 0, 1) := by decide +kernel
theorem dL_act_180 : decode cL_act 180 = .ok (.ireturn, 1) := by decide +kernel
theorem dL_act_181 : decode cL_act 181 = .ok (.iload 8, 2) := by decide +kernel
theorem dL_act_183 : decode cL_act 183 = .ok (.bipush 7, 2) := by decide +kernel
theorem dL_act_185 : decode cL_act 185 = .ok (.if_icmp .ne 91, 3) := by decide +kernel
theorem dL_act_188 : decode cL_act 188 = .ok (.iconst 0, 1) := by decide +kernel
theorem dL_act_189 : decode cL_act 189 = .ok (.istore 10, 2) := by decide +kernel
theorem dL_act_191 : decode cL_act 191 = .ok (.iconst 0, 1) := by decide +kernel
theorem dL_act_192 : decode cL_act 192 = .ok (.istore 11, 2) := by decide +kernel
theorem dL_act_194 : decode cL_act 194 = .ok (.iload 11, 2) := by decide +kernel
theorem dL_act_196 : decode cL_act 196 = .ok (.bipush 8, 2) := by decide +kernel
theorem dL_act_198 : decode cL_act 198 = .ok (.if_icmp .ge 50, 3) := by decide +kernel
theorem dL_act_201 : decode cL_act 201 = .ok (.iload 10, 2) := by decide +kernel
theorem dL_act_203 : decode cL_act 203 = .ok (.aload_n 3, 1) := by decide +kernel
theorem dL_act_204 : decode cL_act 204 = .ok (.iload 11, 2) := by decide +kernel
theorem dL_act_206 : decode cL_act 206 = .ok (.iaload, 1) := by decide +kernel
theorem dL_act_207 : decode cL_act 207 = .ok (.ifCond .eq 17, 3) := by decide +kernel
theorem dL_act_210 : decode cL_act 210 = .ok (.iload 11, 2) := by decide +kernel
theorem dL_act_212 : decode cL_act 212 = .ok (.iload 9, 2) := by decide +kernel
theorem dL_act_214 : decode cL_act 214 = .ok (.invokestatic 61, 3) := by decide +kernel
theorem dL_act_217 : decode cL_act 217 = .ok (.ifCond .ge 7, 3) := by decide +kernel
theorem dL_act_220 : decode cL_act 220 = .ok (.iconst 1, 1) := by decide +kernel
theorem dL_act_221 : decode cL_act 221 = .ok (.goto 4, 3) := by decide +kernel
theorem dL_act_224 : decode cL_act 224 = .ok (.iconst 0, 1) := by decide +kernel
theorem dL_act_225 : decode cL_act 225 = .ok (.iadd, 1) := by decide +kernel
theorem dL_act_226 : decode cL_act 226 = .ok (.istore 10, 2) := by decide +kernel
theorem dL_act_228 : decode cL_act 228 = .ok (.aload_n 3, 1) := by decide +kernel
theorem dL_act_229 : decode cL_act 229 = .ok (.iload 11, 2) := by decide +kernel
theorem dL_act_231 : decode cL_act 231 = .ok (.dup2, 1) := by decide +kernel
theorem dL_act_232 : decode cL_act 232 = .ok (.iaload, 1) := by decide +kernel
theorem dL_act_233 : decode cL_act 233 = .ok (.iload 11, 2) := by decide +kernel
theorem dL_act_235 : decode cL_act 235 = .ok (.iload 9, 2) := by decide +kernel
theorem dL_act_237 : decode cL_act 237 = .ok (.invokestatic 61, 3) := by decide +kernel
theorem dL_act_240 : decode cL_act 240 = .ok (.imul, 1) := by decide +kernel
theorem dL_act_241 : decode cL_act 241 = .ok (.iastore, 1) := by decide +kernel
theorem dL_act_242 : decode cL_act 242 = .ok (.iinc 11 1, 3) := by decide +kernel
theorem dL_act_245 : decode cL_act 245 = .ok (.goto (-51), 3) := by decide +kernel
theorem dL_act_248 : decode cL_act 248 = .ok (.aload_n 0, 1) := by decide +kernel
theorem dL_act_249 : decode cL_act 249 = .ok (.iload 9, 2) := by decide +kernel
theorem dL_act_251 : decode cL_act 251 = .ok (.invokestatic 102, 3) := by decide +kernel
theorem dL_act_254 : decode cL_act 254 = .ok (.iload 10, 2) := by decide +kernel
theorem dL_act_256 : decode cL_act 256 = .ok (.if_icmp .ne 18, 3) := by decide +kernel
theorem dL_act_259 : decode cL_act 259 = .ok (.aload_n 0, 1) := by decide +kernel
theorem dL_act_260 : decode cL_act 260 = .ok (.bipush 8, 2) := by decide +kernel
theorem dL_act_262 : decode cL_act 262 = .ok (.invokestatic 102, 3) := by decide +kernel
theorem dL_act_265 : decode cL_act 265 = .ok (.bipush (-32), 2) := by decide +kernel
theorem dL_act_267 : decode cL_act 267 = .ok (.if_icmp .ne 7, 3) := by decide +kernel
theorem dL_act_270 : decode cL_act 270 = .ok (.iconst 1, 1) := by decide +kernel
theorem dL_act_271 : decode cL_act 271 = .ok (.goto 4, 3) := by decide +kernel
theorem dL_act_274 : decode cL_act 274 = .ok (.iconst 0, 1) := by decide +kernel
theorem dL_act_275 : decode cL_act 275 = .ok (.ireturn, 1) := by decide +kernel
theorem dL_act_276 : decode cL_act 276 = .ok (.iload 8, 2) := by decide +kernel
theorem dL_act_278 : decode cL_act 278 = .ok (.bipush 8, 2) := by decide +kernel
theorem dL_act_280 : decode cL_act 280 = .ok (.if_icmp .ne 118, 3) := by decide +kernel
theorem dL_act_283 : decode cL_act 283 = .ok (.iconst 1, 1) := by decide +kernel
theorem dL_act_284 : decode cL_act 284 = .ok (.iload_n 2, 1) := by decide +kernel
theorem dL_act_285 : decode cL_act 285 = .ok (.iconst 3, 1) := by decide +kernel
theorem dL_act_286 : decode cL_act 286 = .ok (.ishr, 1) := by decide +kernel
theorem dL_act_287 : decode cL_act 287 = .ok (.iload_n 2, 1) := by decide +kernel
theorem dL_act_288 : decode cL_act 288 = .ok (.bipush 20, 2) := by decide +kernel
theorem dL_act_290 : decode cL_act 290 = .ok (.ishr, 1) := by decide +kernel
theorem dL_act_291 : decode cL_act 291 = .ok (.iconst 1, 1) := by decide +kernel
theorem dL_act_292 : decode cL_act 292 = .ok (.iand, 1) := by decide +kernel
theorem dL_act_293 : decode cL_act 293 = .ok (.ifCond .ne 8, 3) := by decide +kernel
theorem dL_act_296 : decode cL_act 296 = .ok (.bipush 12, 2) := by decide +kernel
theorem dL_act_298 : decode cL_act 298 = .ok (.goto 5, 3) := by decide +kernel
theorem dL_act_301 : decode cL_act 301 = .ok (.bipush 99, 2) := by decide +kernel
theorem dL_act_303 : decode cL_act 303 = .ok (.invokestatic 94, 3) := by decide +kernel
theorem dL_act_306 : decode cL_act 306 = .ok (.iadd, 1) := by decide +kernel
theorem dL_act_307 : decode cL_act 307 = .ok (.istore 10, 2) := by decide +kernel
theorem dL_act_309 : decode cL_act 309 = .ok (.aload_n 3, 1) := by decide +kernel
theorem dL_act_310 : decode cL_act 310 = .ok (.invokestatic 70, 3) := by decide +kernel
theorem dL_act_313 : decode cL_act 313 = .ok (.istore 11, 2) := by decide +kernel
theorem dL_act_315 : decode cL_act 315 = .ok (.iconst 0, 1) := by decide +kernel
theorem dL_act_316 : decode cL_act 316 = .ok (.istore 12, 2) := by decide +kernel
theorem dL_act_318 : decode cL_act 318 = .ok (.iload 12, 2) := by decide +kernel
theorem dL_act_320 : decode cL_act 320 = .ok (.bipush 8, 2) := by decide +kernel
theorem dL_act_322 : decode cL_act 322 = .ok (.if_icmp .ge 33, 3) := by decide +kernel
theorem dL_act_325 : decode cL_act 325 = .ok (.aload_n 3, 1) := by decide +kernel
theorem dL_act_326 : decode cL_act 326 = .ok (.iload 12, 2) := by decide +kernel
theorem dL_act_328 : decode cL_act 328 = .ok (.aload_n 3, 1) := by decide +kernel
theorem dL_act_329 : decode cL_act 329 = .ok (.iload 12, 2) := by decide +kernel
theorem dL_act_331 : decode cL_act 331 = .ok (.iaload, 1) := by decide +kernel
theorem dL_act_332 : decode cL_act 332 = .ok (.invokestatic 78, 3) := by decide +kernel
theorem dL_act_335 : decode cL_act 335 = .ok (.iload 10, 2) := by decide +kernel
theorem dL_act_337 : decode cL_act 337 = .ok (.if_icmp .lt 10, 3) := by decide +kernel
theorem dL_act_340 : decode cL_act 340 = .ok (.aload_n 3, 1) := by decide +kernel
theorem dL_act_341 : decode cL_act 341 = .ok (.iload 12, 2) := by decide +kernel
theorem dL_act_343 : decode cL_act 343 = .ok (.iaload, 1) := by decide +kernel
theorem dL_act_344 : decode cL_act 344 = .ok (.goto 4, 3) := by decide +kernel
theorem dL_act_347 : decode cL_act 347 = .ok (.iconst 0, 1) := by decide +kernel
theorem dL_act_348 : decode cL_act 348 = .ok (.iastore, 1) := by decide +kernel
theorem dL_act_349 : decode cL_act 349 = .ok (.iinc 12 1, 3) := by decide +kernel
theorem dL_act_352 : decode cL_act 352 = .ok (.goto (-34), 3) := by decide +kernel
theorem dL_act_355 : decode cL_act 355 = .ok (.aload_n 0, 1) := by decide +kernel
theorem dL_act_356 : decode cL_act 356 = .ok (.iload 10, 2) := by decide +kernel
theorem dL_act_358 : decode cL_act 358 = .ok (.invokestatic 104, 3) := by decide +kernel
theorem dL_act_361 : decode cL_act 361 = .ok (.iload 11, 2) := by decide +kernel
theorem dL_act_363 : decode cL_act 363 = .ok (.aload_n 3, 1) := by decide +kernel
theorem dL_act_364 : decode cL_act 364 = .ok (.invokestatic 70, 3) := by decide +kernel
theorem dL_act_367 : decode cL_act 367 = .ok (.isub, 1) := by decide +kernel
theorem dL_act_368 : decode cL_act 368 = .ok (.if_icmp .ne 28, 3) := by decide +kernel
theorem dL_act_371 : decode cL_act 371 = .ok (.aload_n 0, 1) := by decide +kernel
theorem dL_act_372 : decode cL_act 372 = .ok (.iconst 0, 1) := by decide +kernel
theorem dL_act_373 : decode cL_act 373 = .ok (.invokestatic 104, 3) := by decide +kernel
theorem dL_act_376 : decode cL_act 376 = .ok (.bipush (-32), 2) := by decide +kernel
theorem dL_act_378 : decode cL_act 378 = .ok (.if_icmp .ne 18, 3) := by decide +kernel
theorem dL_act_381 : decode cL_act 381 = .ok (.aload_n 0, 1) := by decide +kernel
theorem dL_act_382 : decode cL_act 382 = .ok (.bipush 100, 2) := by decide +kernel
theorem dL_act_384 : decode cL_act 384 = .ok (.invokestatic 104, 3) := by decide +kernel
theorem dL_act_387 : decode cL_act 387 = .ok (.bipush (-32), 2) := by decide +kernel
theorem dL_act_389 : decode cL_act 389 = .ok (.if_icmp .ne 7, 3) := by decide +kernel
theorem dL_act_392 : decode cL_act 392 = .ok (.iconst 1, 1) := by decide +kernel
theorem dL_act_393 : decode cL_act 393 = .ok (.goto 4, 3) := by decide +kernel
theorem dL_act_396 : decode cL_act 396 = .ok (.iconst 0, 1) := by decide +kernel
theorem dL_act_397 : decode cL_act 397 = .ok (.ireturn, 1) := by decide +kernel
theorem dL_act_398 : decode cL_act 398 = .ok (.iload 8, 2) := by decide +kernel
theorem dL_act_400 : decode cL_act 400 = .ok (.bipush 12, 2) := by decide +kernel
theorem dL_act_402 : decode cL_act 402 = .ok (.if_icmp .ge 116, 3) := by decide +kernel
theorem dL_act_405 : decode cL_act 405 = .ok (.aload 5, 2) := by decide +kernel
theorem dL_act_407 : decode cL_act 407 = .ok (.iload 9, 2) := by decide +kernel
theorem dL_act_409 : decode cL_act 409 = .ok (.iaload, 1) := by decide +kernel
theorem dL_act_410 : decode cL_act 410 = .ok (.istore 10, 2) := by decide +kernel
theorem dL_act_412 : decode cL_act 412 = .ok (.aload 5, 2) := by decide +kernel
theorem dL_act_414 : decode cL_act 414 = .ok (.iload 9, 2) := by decide +kernel
theorem dL_act_416 : decode cL_act 416 = .ok (.iload_n 2, 1) := by decide +kernel
theorem dL_act_417 : decode cL_act 417 = .ok (.iconst 3, 1) := by decide +kernel
theorem dL_act_418 : decode cL_act 418 = .ok (.ishr, 1) := by decide +kernel
theorem dL_act_419 : decode cL_act 419 = .ok (.iload_n 2, 1) := by decide +kernel
theorem dL_act_420 : decode cL_act 420 = .ok (.bipush 20, 2) := by decide +kernel
theorem dL_act_422 : decode cL_act 422 = .ok (.ishr, 1) := by decide +kernel
theorem dL_act_423 : decode cL_act 423 = .ok (.iconst 3, 1) := by decide +kernel
theorem dL_act_424 : decode cL_act 424 = .ok (.iand, 1) := by decide +kernel
theorem dL_act_425 : decode cL_act 425 = .ok (.ifCond .ne 9, 3) := by decide +kernel
theorem dL_act_428 : decode cL_act 428 = .ok (.sipush 19999, 3) := by decide +kernel
theorem dL_act_431 : decode cL_act 431 = .ok (.goto 5, 3) := by decide +kernel
theorem dL_act_434 : decode cL_act 434 = .ok (.bipush 101, 2) := by decide +kernel
theorem dL_act_436 : decode cL_act 436 = .ok (.invokestatic 94, 3) := by decide +kernel
theorem dL_act_439 : decode cL_act 439 = .ok (.iload_n 2, 1) := by decide +kernel
theorem dL_act_440 : decode cL_act 440 = .ok (.bipush 20, 2) := by decide +kernel
theorem dL_act_442 : decode cL_act 442 = .ok (.ishr, 1) := by decide +kernel
theorem dL_act_443 : decode cL_act 443 = .ok (.iconst 3, 1) := by decide +kernel
theorem dL_act_444 : decode cL_act 444 = .ok (.iand, 1) := by decide +kernel
theorem dL_act_445 : decode cL_act 445 = .ok (.ifCond .ne 9, 3) := by decide +kernel
theorem dL_act_448 : decode cL_act 448 = .ok (.sipush 9999, 3) := by decide +kernel
theorem dL_act_451 : decode cL_act 451 = .ok (.goto 5, 3) := by decide +kernel
theorem dL_act_454 : decode cL_act 454 = .ok (.bipush 50, 2) := by decide +kernel
theorem dL_act_456 : decode cL_act 456 = .ok (.isub, 1) := by decide +kernel
theorem dL_act_457 : decode cL_act 457 = .ok (.iastore, 1) := by decide +kernel
theorem dL_act_458 : decode cL_act 458 = .ok (.aload_n 0, 1) := by decide +kernel
theorem dL_act_459 : decode cL_act 459 = .ok (.iload 9, 2) := by decide +kernel
theorem dL_act_461 : decode cL_act 461 = .ok (.aload 5, 2) := by decide +kernel
theorem dL_act_463 : decode cL_act 463 = .ok (.iload 9, 2) := by decide +kernel
theorem dL_act_465 : decode cL_act 465 = .ok (.iaload, 1) := by decide +kernel
theorem dL_act_466 : decode cL_act 466 = .ok (.invokestatic 106, 3) := by decide +kernel
theorem dL_act_469 : decode cL_act 469 = .ok (.iload 10, 2) := by decide +kernel
theorem dL_act_471 : decode cL_act 471 = .ok (.if_icmp .ne 45, 3) := by decide +kernel
theorem dL_act_474 : decode cL_act 474 = .ok (.aload_n 0, 1) := by decide +kernel
theorem dL_act_475 : decode cL_act 475 = .ok (.bipush 8, 2) := by decide +kernel
theorem dL_act_477 : decode cL_act 477 = .ok (.iconst 0, 1) := by decide +kernel
theorem dL_act_478 : decode cL_act 478 = .ok (.invokestatic 106, 3) := by decide +kernel
theorem dL_act_481 : decode cL_act 481 = .ok (.bipush (-31), 2) := by decide +kernel
theorem dL_act_483 : decode cL_act 483 = .ok (.if_icmp .ne 33, 3) := by decide +kernel
theorem dL_act_486 : decode cL_act 486 = .ok (.aload_n 0, 1) := by decide +kernel
theorem dL_act_487 : decode cL_act 487 = .ok (.iconst 0, 1) := by decide +kernel
theorem dL_act_488 : decode cL_act 488 = .ok (.sipush 10000, 3) := by decide +kernel
theorem dL_act_491 : decode cL_act 491 = .ok (.invokestatic 106, 3) := by decide +kernel
theorem dL_act_494 : decode cL_act 494 = .ok (.bipush (-32), 2) := by decide +kernel
theorem dL_act_496 : decode cL_act 496 = .ok (.if_icmp .ne 20, 3) := by decide +kernel
theorem dL_act_499 : decode cL_act 499 = .ok (.aload_n 0, 1) := by decide +kernel
theorem dL_act_500 : decode cL_act 500 = .ok (.iconst 0, 1) := by decide +kernel
theorem dL_act_501 : decode cL_act 501 = .ok (.sipush (-10000), 3) := by decide +kernel
theorem dL_act_504 : decode cL_act 504 = .ok (.invokestatic 106, 3) := by decide +kernel
theorem dL_act_507 : decode cL_act 507 = .ok (.bipush (-32), 2) := by decide +kernel
theorem dL_act_509 : decode cL_act 509 = .ok (.if_icmp .ne 7, 3) := by decide +kernel
theorem dL_act_512 : decode cL_act 512 = .ok (.iconst 1, 1) := by decide +kernel
theorem dL_act_513 : decode cL_act 513 = .ok (.goto 4, 3) := by decide +kernel
theorem dL_act_516 : decode cL_act 516 = .ok (.iconst 0, 1) := by decide +kernel
theorem dL_act_517 : decode cL_act 517 = .ok (.ireturn, 1) := by decide +kernel
theorem dL_act_518 : decode cL_act 518 = .ok (.iload 8, 2) := by decide +kernel
theorem dL_act_520 : decode cL_act 520 = .ok (.bipush 14, 2) := by decide +kernel
theorem dL_act_522 : decode cL_act 522 = .ok (.if_icmp .ge 70, 3) := by decide +kernel
theorem dL_act_525 : decode cL_act 525 = .ok (.iconst 0, 1) := by decide +kernel
theorem dL_act_526 : decode cL_act 526 = .ok (.istore 10, 2) := by decide +kernel
theorem dL_act_528 : decode cL_act 528 = .ok (.iconst 0, 1) := by decide +kernel
theorem dL_act_529 : decode cL_act 529 = .ok (.istore 11, 2) := by decide +kernel
theorem dL_act_531 : decode cL_act 531 = .ok (.iload 11, 2) := by decide +kernel
theorem dL_act_533 : decode cL_act 533 = .ok (.bipush 8, 2) := by decide +kernel
theorem dL_act_535 : decode cL_act 535 = .ok (.if_icmp .ge 42, 3) := by decide +kernel
theorem dL_act_538 : decode cL_act 538 = .ok (.iload 10, 2) := by decide +kernel
theorem dL_act_540 : decode cL_act 540 = .ok (.aload 5, 2) := by decide +kernel
theorem dL_act_542 : decode cL_act 542 = .ok (.iload 11, 2) := by decide +kernel
theorem dL_act_544 : decode cL_act 544 = .ok (.iaload, 1) := by decide +kernel
theorem dL_act_545 : decode cL_act 545 = .ok (.aload 6, 2) := by decide +kernel
theorem dL_act_547 : decode cL_act 547 = .ok (.iload 11, 2) := by decide +kernel
theorem dL_act_549 : decode cL_act 549 = .ok (.iaload, 1) := by decide +kernel
theorem dL_act_550 : decode cL_act 550 = .ok (.if_icmp .eq 7, 3) := by decide +kernel
theorem dL_act_553 : decode cL_act 553 = .ok (.iconst 1, 1) := by decide +kernel
theorem dL_act_554 : decode cL_act 554 = .ok (.goto 4, 3) := by decide +kernel
theorem dL_act_557 : decode cL_act 557 = .ok (.iconst 0, 1) := by decide +kernel
theorem dL_act_558 : decode cL_act 558 = .ok (.iadd, 1) := by decide +kernel
theorem dL_act_559 : decode cL_act 559 = .ok (.istore 10, 2) := by decide +kernel
theorem dL_act_561 : decode cL_act 561 = .ok (.aload 5, 2) := by decide +kernel
theorem dL_act_563 : decode cL_act 563 = .ok (.iload 11, 2) := by decide +kernel
theorem dL_act_565 : decode cL_act 565 = .ok (.aload 6, 2) := by decide +kernel
theorem dL_act_567 : decode cL_act 567 = .ok (.iload 11, 2) := by decide +kernel
theorem dL_act_569 : decode cL_act 569 = .ok (.iaload, 1) := by decide +kernel
theorem dL_act_570 : decode cL_act 570 = .ok (.iastore, 1) := by decide +kernel
theorem dL_act_571 : decode cL_act 571 = .ok (.iinc 11 1, 3) := by decide +kernel
theorem dL_act_574 : decode cL_act 574 = .ok (.goto (-43), 3) := by decide +kernel
theorem dL_act_577 : decode cL_act 577 = .ok (.aload_n 0, 1) := by decide +kernel
theorem dL_act_578 : decode cL_act 578 = .ok (.invokevirtual 108, 3) := by decide +kernel
theorem dL_act_581 : decode cL_act 581 = .ok (.iload 10, 2) := by decide +kernel
theorem dL_act_583 : decode cL_act 583 = .ok (.if_icmp .ne 7, 3) := by decide +kernel
theorem dL_act_586 : decode cL_act 586 = .ok (.iconst 1, 1) := by decide +kernel
theorem dL_act_587 : decode cL_act 587 = .ok (.goto 4, 3) := by decide +kernel
theorem dL_act_590 : decode cL_act 590 = .ok (.iconst 0, 1) := by decide +kernel
theorem dL_act_591 : decode cL_act 591 = .ok (.ireturn, 1) := by decide +kernel
theorem dL_act_592 : decode cL_act 592 = .ok (.bipush 8, 2) := by decide +kernel
theorem dL_act_594 : decode cL_act 594 = .ok (.newarray .int, 2) := by decide +kernel
theorem dL_act_596 : decode cL_act 596 = .ok (.astore 10, 2) := by decide +kernel
theorem dL_act_598 : decode cL_act 598 = .ok (.iconst 0, 1) := by decide +kernel
theorem dL_act_599 : decode cL_act 599 = .ok (.istore 11, 2) := by decide +kernel
theorem dL_act_601 : decode cL_act 601 = .ok (.iload 11, 2) := by decide +kernel
theorem dL_act_603 : decode cL_act 603 = .ok (.bipush 8, 2) := by decide +kernel
theorem dL_act_605 : decode cL_act 605 = .ok (.if_icmp .ge 19, 3) := by decide +kernel
theorem dL_act_608 : decode cL_act 608 = .ok (.aload 10, 2) := by decide +kernel
theorem dL_act_610 : decode cL_act 610 = .ok (.iload 11, 2) := by decide +kernel
theorem dL_act_612 : decode cL_act 612 = .ok (.aload 5, 2) := by decide +kernel
theorem dL_act_614 : decode cL_act 614 = .ok (.iload 11, 2) := by decide +kernel
theorem dL_act_616 : decode cL_act 616 = .ok (.iaload, 1) := by decide +kernel
theorem dL_act_617 : decode cL_act 617 = .ok (.iastore, 1) := by decide +kernel
theorem dL_act_618 : decode cL_act 618 = .ok (.iinc 11 1, 3) := by decide +kernel
theorem dL_act_621 : decode cL_act 621 = .ok (.goto (-20), 3) := by decide +kernel
theorem dL_act_624 : decode cL_act 624 = .ok (.aload 10, 2) := by decide +kernel
theorem dL_act_626 : decode cL_act 626 = .ok (.invokestatic 53, 3) := by decide +kernel
theorem dL_act_629 : decode cL_act 629 = .ok (.iconst 0, 1) := by decide +kernel
theorem dL_act_630 : decode cL_act 630 = .ok (.istore 11, 2) := by decide +kernel
theorem dL_act_632 : decode cL_act 632 = .ok (.iconst 0, 1) := by decide +kernel
theorem dL_act_633 : decode cL_act 633 = .ok (.istore 12, 2) := by decide +kernel
theorem dL_act_635 : decode cL_act 635 = .ok (.iload 12, 2) := by decide +kernel
theorem dL_act_637 : decode cL_act 637 = .ok (.bipush 8, 2) := by decide +kernel
theorem dL_act_639 : decode cL_act 639 = .ok (.if_icmp .ge 78, 3) := by decide +kernel
theorem dL_act_642 : decode cL_act 642 = .ok (.aload 10, 2) := by decide +kernel
theorem dL_act_644 : decode cL_act 644 = .ok (.iload 12, 2) := by decide +kernel
theorem dL_act_646 : decode cL_act 646 = .ok (.iaload, 1) := by decide +kernel
theorem dL_act_647 : decode cL_act 647 = .ok (.invokestatic 64, 3) := by decide +kernel
theorem dL_act_650 : decode cL_act 650 = .ok (.istore 13, 2) := by decide +kernel
theorem dL_act_652 : decode cL_act 652 = .ok (.iload 13, 2) := by decide +kernel
theorem dL_act_654 : decode cL_act 654 = .ok (.bipush 99, 2) := by decide +kernel
theorem dL_act_656 : decode cL_act 656 = .ok (.if_icmp .le 8, 3) := by decide +kernel
theorem dL_act_659 : decode cL_act 659 = .ok (.bipush 99, 2) := by decide +kernel
theorem dL_act_661 : decode cL_act 661 = .ok (.goto 17, 3) := by decide +kernel
theorem dL_act_664 : decode cL_act 664 = .ok (.iload 13, 2) := by decide +kernel
theorem dL_act_666 : decode cL_act 666 = .ok (.bipush (-99), 2) := by decide +kernel
theorem dL_act_668 : decode cL_act 668 = .ok (.if_icmp .ge 8, 3) := by decide +kernel
theorem dL_act_671 : decode cL_act 671 = .ok (.bipush (-99), 2) := by decide +kernel
theorem dL_act_673 : decode cL_act 673 = .ok (.goto 5, 3) := by decide +kernel
theorem dL_act_676 : decode cL_act 676 = .ok (.iload 13, 2) := by decide +kernel
theorem dL_act_678 : decode cL_act 678 = .ok (.istore 13, 2) := by decide +kernel
theorem dL_act_680 : decode cL_act 680 = .ok (.iload 11, 2) := by decide +kernel
theorem dL_act_682 : decode cL_act 682 = .ok (.iload 13, 2) := by decide +kernel
theorem dL_act_684 : decode cL_act 684 = .ok (.aload_n 3, 1) := by decide +kernel
theorem dL_act_685 : decode cL_act 685 = .ok (.iload 12, 2) := by decide +kernel
theorem dL_act_687 : decode cL_act 687 = .ok (.iaload, 1) := by decide +kernel
theorem dL_act_688 : decode cL_act 688 = .ok (.if_icmp .ne 7, 3) := by decide +kernel
theorem dL_act_691 : decode cL_act 691 = .ok (.iconst 0, 1) := by decide +kernel
theorem dL_act_692 : decode cL_act 692 = .ok (.goto 4, 3) := by decide +kernel
theorem dL_act_695 : decode cL_act 695 = .ok (.iconst 1, 1) := by decide +kernel
theorem dL_act_696 : decode cL_act 696 = .ok (.iadd, 1) := by decide +kernel
theorem dL_act_697 : decode cL_act 697 = .ok (.istore 11, 2) := by decide +kernel
theorem dL_act_699 : decode cL_act 699 = .ok (.aload_n 3, 1) := by decide +kernel
theorem dL_act_700 : decode cL_act 700 = .ok (.iload 12, 2) := by decide +kernel
theorem dL_act_702 : decode cL_act 702 = .ok (.iload 13, 2) := by decide +kernel
theorem dL_act_704 : decode cL_act 704 = .ok (.iastore, 1) := by decide +kernel
theorem dL_act_705 : decode cL_act 705 = .ok (.aload 4, 2) := by decide +kernel
theorem dL_act_707 : decode cL_act 707 = .ok (.iload 12, 2) := by decide +kernel
theorem dL_act_709 : decode cL_act 709 = .ok (.iconst 0, 1) := by decide +kernel
theorem dL_act_710 : decode cL_act 710 = .ok (.iastore, 1) := by decide +kernel
theorem dL_act_711 : decode cL_act 711 = .ok (.iinc 12 1, 3) := by decide +kernel
theorem dL_act_714 : decode cL_act 714 = .ok (.goto (-79), 3) := by decide +kernel
theorem dL_act_717 : decode cL_act 717 = .ok (.aload 7, 2) := by decide +kernel
theorem dL_act_719 : decode cL_act 719 = .ok (.iconst 0, 1) := by decide +kernel
theorem dL_act_720 : decode cL_act 720 = .ok (.dup2, 1) := by decide +kernel
theorem dL_act_721 : decode cL_act 721 = .ok (.iaload, 1) := by decide +kernel
theorem dL_act_722 : decode cL_act 722 = .ok (.iload 11, 2) := by decide +kernel
theorem dL_act_724 : decode cL_act 724 = .ok (.iadd, 1) := by decide +kernel
theorem dL_act_725 : decode cL_act 725 = .ok (.iastore, 1) := by decide +kernel
theorem dL_act_726 : decode cL_act 726 = .ok (.aload_n 0, 1) := by decide +kernel
theorem dL_act_727 : decode cL_act 727 = .ok (.invokevirtual 111, 3) := by decide +kernel
theorem dL_act_730 : decode cL_act 730 = .ok (.iload 11, 2) := by decide +kernel
theorem dL_act_732 : decode cL_act 732 = .ok (.if_icmp .ne 7, 3) := by decide +kernel
theorem dL_act_735 : decode cL_act 735 = .ok (.iconst 1, 1) := by decide +kernel
theorem dL_act_736 : decode cL_act 736 = .ok (.goto 4, 3) := by decide +kernel
theorem dL_act_739 : decode cL_act 739 = .ok (.iconst 0, 1) := by decide +kernel
theorem dL_act_740 : decode cL_act 740 = .ok (.ireturn, 1) := by decide +kernel

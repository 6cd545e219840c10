set_option maxRecDepth 20000 in
theorem ggL_isAhead_X3_ifTurned : GoodIn wsL_isAhead wsX3_ifTurned := goodIn_ca (goodIn_ca (goodIn_r _ [7, 8, 9, 10, 11, 12, 13, 14, 6, 15, 16, 17, 18, 19, 20, 21, 22, 23, 24, 25, 26, 27, 28, 29, 30, 31, 32, 33, 34, 35, 36, 37, 38, 39, 40, 41, 91, 92, 93, 94, 95, 96, 97, 98, 99, 100] (by decide +kernel) (by decide +kernel)) (goodIn_sub (fun _ h => List.mem_cons_of_mem _ (List.mem_append_left _ (List.mem_append_right _ h))) (by decide +kernel))) (goodIn_sub (fun _ h => List.mem_cons_of_mem _ (List.mem_append_right _ h)) (by decide +kernel))
set_option maxRecDepth 20000 in
theorem gL_isAhead_X3_ifTurned : GoodIn wsL_isAhead (wsV RL 50 RX3 yX3_ifTurned wsX3_ifTurned) := goodIn_app (goodIn_of _ (by decide +kernel)) ggL_isAhead_X3_ifTurned
set_option maxRecDepth 20000 in
theorem ggL_isAhead_L_amount : GoodIn wsL_isAhead wsL_amount := goodIn_r _ [45] (by decide +kernel) (by decide +kernel)
set_option maxRecDepth 20000 in
theorem gL_isAhead_L_amount : GoodIn wsL_isAhead (va_wsS RL 78 yL_amount wsL_amount) := goodIn_app (goodIn_of _ (by decide +kernel)) ggL_isAhead_L_amount
set_option maxRecDepth 20000 in
theorem ggL_isAhead_X3_enough : GoodIn wsL_isAhead wsX3_enough := goodIn_ca (goodIn_r _ [49, 10, 11, 50, 16, 17, 6, 18, 51, 52, 53, 54, 55, 12, 56, 20, 57, 58, 23, 24, 25, 26, 27, 28, 29, 30, 31, 32, 59, 60, 61, 62, 63, 64, 65, 66, 67, 68, 69, 70, 91, 92, 93, 94, 95, 96, 97, 98, 99, 100] (by decide +kernel) (by decide +kernel)) (goodIn_sub (fun _ h => List.mem_cons_of_mem _ (List.mem_append_right _ h)) (by decide +kernel))
set_option maxRecDepth 20000 in
theorem gL_isAhead_X3_enough : GoodIn wsL_isAhead (wsV RL 47 RX3 yX3_enough wsX3_enough) := goodIn_app (goodIn_of _ (by decide +kernel)) ggL_isAhead_X3_enough
set_option maxRecDepth 20000 in
theorem ggL_isAhead_X3_bestTurn : GoodIn wsL_isAhead wsX3_bestTurn := goodIn_r _ [74, 75, 76, 77, 6, 78, 12, 79, 80, 81, 82, 19, 20, 21, 22, 23, 24, 25, 26, 27, 28, 29, 30, 31, 32, 33, 34, 35, 36, 37, 38, 39, 40, 41, 91, 92, 93, 94, 95, 96, 97, 98, 99, 100] (by decide +kernel) (by decide +kernel)
set_option maxRecDepth 20000 in
theorem gL_isAhead_X3_bestTurn : GoodIn wsL_isAhead (wsV RL 85 RX3 yX3_bestTurn wsX3_bestTurn) := goodIn_app (goodIn_of _ (by decide +kernel)) ggL_isAhead_X3_bestTurn
set_option maxRecDepth 20000 in
theorem ggL_isAhead_L_enough : GoodIn wsL_isAhead wsL_enough := goodIn_ca (goodIn_r _ [85, 86, 46, 47, 48, 6, 49, 10, 11, 50, 16, 17, 18, 51, 52, 53, 54, 55, 12, 56, 20, 57, 58, 23, 24, 25, 26, 27, 28, 29, 30, 31, 32, 59, 60, 61, 62, 63, 64, 65, 66, 67, 68, 69, 70, 91, 92, 93, 94, 95, 96, 97, 98, 99, 100] (by decide +kernel) (by decide +kernel)) (goodIn_sub (fun _ h => List.mem_cons_of_mem _ (List.mem_append_right _ h)) (by decide +kernel))
set_option maxRecDepth 20000 in
theorem gL_isAhead_L_enough : GoodIn wsL_isAhead (va_wsS RL 88 yL_enough wsL_enough) := goodIn_app (goodIn_of _ (by decide +kernel)) ggL_isAhead_L_enough
set_option maxRecDepth 20000 in
theorem ggL_isAhead_L_ifTurned : GoodIn wsL_isAhead wsL_ifTurned := goodIn_ca (goodIn_ca (goodIn_r _ [89, 90, 86, 3, 4, 5, 6, 7, 8, 9, 10, 11, 12, 13, 14, 15, 16, 17, 18, 19, 20, 21, 22, 23, 24, 25, 26, 27, 28, 29, 30, 31, 32, 33, 34, 35, 36, 37, 38, 39, 40, 41, 91, 92, 93, 94, 95, 96, 97, 98, 99, 100] (by decide +kernel) (by decide +kernel)) (goodIn_sub (fun _ h => List.mem_cons_of_mem _ (List.mem_append_left _ (List.mem_append_right _ h))) (by decide +kernel))) (goodIn_sub (fun _ h => List.mem_cons_of_mem _ (List.mem_append_right _ h)) (by decide +kernel))
set_option maxRecDepth 20000 in
theorem gL_isAhead_L_ifTurned : GoodIn wsL_isAhead (va_wsS RL 92 yL_ifTurned wsL_ifTurned) := goodIn_app (goodIn_of _ (by decide +kernel)) ggL_isAhead_L_ifTurned
theorem dL_isAhead_0 : decode cL_isAhead 0 = .ok (.bipush 8, 2) := by decide +kernel
theorem dL_isAhead_2 : decode cL_isAhead 2 = .ok (.istore 6, 2) := by decide +kernel
theorem dL_isAhead_4 : decode cL_isAhead 4 = .ok (.iconst 0, 1) := by decide +kernel
theorem dL_isAhead_5 : decode cL_isAhead 5 = .ok (.istore 7, 2) := by decide +kernel
theorem dL_isAhead_7 : decode cL_isAhead 7 = .ok (.iload 7, 2) := by decide +kernel
theorem dL_isAhead_9 : decode cL_isAhead 9 = .ok (.sipush 256, 3) := by decide +kernel
theorem dL_isAhead_12 : decode cL_isAhead 12 = .ok (.if_icmp .ge 124, 3) := by decide +kernel
theorem dL_isAhead_15 : decode cL_isAhead 15 = .ok (.iconst 0, 1) := by decide +kernel
theorem dL_isAhead_16 : decode cL_isAhead 16 = .ok (.istore 8, 2) := by decide +kernel
theorem dL_isAhead_18 : decode cL_isAhead 18 = .ok (.iconst 0, 1) := by decide +kernel
theorem dL_isAhead_19 : decode cL_isAhead 19 = .ok (.istore 9, 2) := by decide +kernel
theorem dL_isAhead_21 : decode cL_isAhead 21 = .ok (.iconst 0, 1) := by decide +kernel
theorem dL_isAhead_22 : decode cL_isAhead 22 = .ok (.istore 10, 2) := by decide +kernel
theorem dL_isAhead_24 : decode cL_isAhead 24 = .ok (.iload 10, 2) := by decide +kernel
theorem dL_isAhead_26 : decode cL_isAhead 26 = .ok (.bipush 8, 2) := by decide +kernel
theorem dL_isAhead_28 : decode cL_isAhead 28 = .ok (.if_icmp .ge 80, 3) := by decide +kernel
theorem dL_isAhead_31 : decode cL_isAhead 31 = .ok (.aload_n 3, 1) := by decide +kernel
theorem dL_isAhead_32 : decode cL_isAhead 32 = .ok (.iload 10, 2) := by decide +kernel
theorem dL_isAhead_34 : decode cL_isAhead 34 = .ok (.iaload, 1) := by decide +kernel
theorem dL_isAhead_35 : decode cL_isAhead 35 = .ok (.iconst 1, 1) := by decide +kernel
theorem dL_isAhead_36 : decode cL_isAhead 36 = .ok (.if_icmp .ne 7, 3) := by decide +kernel
theorem dL_isAhead_39 : decode cL_isAhead 39 = .ok (.iconst 0, 1) := by decide +kernel
theorem dL_isAhead_40 : decode cL_isAhead 40 = .ok (.goto 7, 3) := by decide +kernel
theorem dL_isAhead_43 : decode cL_isAhead 43 = .ok (.aload_n 2, 1) := by decide +kernel
theorem dL_isAhead_44 : decode cL_isAhead 44 = .ok (.iload 10, 2) := by decide +kernel
theorem dL_isAhead_46 : decode cL_isAhead 46 = .ok (.iaload, 1) := by decide +kernel
theorem dL_isAhead_47 : decode cL_isAhead 47 = .ok (.istore 11, 2) := by decide +kernel
theorem dL_isAhead_49 : decode cL_isAhead 49 = .ok (.iload 8, 2) := by decide +kernel
theorem dL_isAhead_51 : decode cL_isAhead 51 = .ok (.iload 7, 2) := by decide +kernel
theorem dL_isAhead_53 : decode cL_isAhead 53 = .ok (.iload 10, 2) := by decide +kernel
theorem dL_isAhead_55 : decode cL_isAhead 55 = .ok (.ishr, 1) := by decide +kernel
theorem dL_isAhead_56 : decode cL_isAhead 56 = .ok (.iconst 1, 1) := by decide +kernel
theorem dL_isAhead_57 : decode cL_isAhead 57 = .ok (.iand, 1) := by decide +kernel
theorem dL_isAhead_58 : decode cL_isAhead 58 = .ok (.ifCond .ne 14, 3) := by decide +kernel
theorem dL_isAhead_61 : decode cL_isAhead 61 = .ok (.bipush 8, 2) := by decide +kernel
theorem dL_isAhead_63 : decode cL_isAhead 63 = .ok (.iload 11, 2) := by decide +kernel
theorem dL_isAhead_65 : decode cL_isAhead 65 = .ok (.imul, 1) := by decide +kernel
theorem dL_isAhead_66 : decode cL_isAhead 66 = .ok (.iload 11, 2) := by decide +kernel
theorem dL_isAhead_68 : decode cL_isAhead 68 = .ok (.imul, 1) := by decide +kernel
theorem dL_isAhead_69 : decode cL_isAhead 69 = .ok (.goto 4, 3) := by decide +kernel
theorem dL_isAhead_72 : decode cL_isAhead 72 = .ok (.iconst 0, 1) := by decide +kernel
theorem dL_isAhead_73 : decode cL_isAhead 73 = .ok (.iadd, 1) := by decide +kernel
theorem dL_isAhead_74 : decode cL_isAhead 74 = .ok (.istore 8, 2) := by decide +kernel
theorem dL_isAhead_76 : decode cL_isAhead 76 = .ok (.iload 9, 2) := by decide +kernel
theorem dL_isAhead_78 : decode cL_isAhead 78 = .ok (.iload 7, 2) := by decide +kernel
theorem dL_isAhead_80 : decode cL_isAhead 80 = .ok (.iload 10, 2) := by decide +kernel
theorem dL_isAhead_82 : decode cL_isAhead 82 = .ok (.ishr, 1) := by decide +kernel
theorem dL_isAhead_83 : decode cL_isAhead 83 = .ok (.iconst 1, 1) := by decide +kernel
theorem dL_isAhead_84 : decode cL_isAhead 84 = .ok (.iand, 1) := by decide +kernel
theorem dL_isAhead_85 : decode cL_isAhead 85 = .ok (.iconst 1, 1) := by decide +kernel
theorem dL_isAhead_86 : decode cL_isAhead 86 = .ok (.if_icmp .ne 12, 3) := by decide +kernel
theorem dL_isAhead_89 : decode cL_isAhead 89 = .ok (.iload 11, 2) := by decide +kernel
theorem dL_isAhead_91 : decode cL_isAhead 91 = .ok (.ifCond .eq 7, 3) := by decide +kernel
theorem dL_isAhead_94 : decode cL_isAhead 94 = .ok (.iconst 1, 1) := by decide +kernel
theorem dL_isAhead_95 : decode cL_isAhead 95 = .ok (.goto 4, 3) := by decide +kernel
theorem dL_isAhead_98 : decode cL_isAhead 98 = .ok (.iconst 0, 1) := by decide +kernel
theorem dL_isAhead_99 : decode cL_isAhead 99 = .ok (.iadd, 1) := by decide +kernel
theorem dL_isAhead_100 : decode cL_isAhead 100 = .ok (.istore 9, 2) := by decide +kernel
theorem dL_isAhead_102 : decode cL_isAhead 102 = .ok (.iinc 10 1, 3) := by decide +kernel
theorem dL_isAhead_105 : decode cL_isAhead 105 = .ok (.goto (-81), 3) := by decide +kernel
theorem dL_isAhead_108 : decode cL_isAhead 108 = .ok (.iload 8, 2) := by decide +kernel
theorem dL_isAhead_110 : decode cL_isAhead 110 = .ok (.iload_n 1, 1) := by decide +kernel
theorem dL_isAhead_111 : decode cL_isAhead 111 = .ok (.if_icmp .gt 15, 3) := by decide +kernel
theorem dL_isAhead_114 : decode cL_isAhead 114 = .ok (.iload 9, 2) := by decide +kernel
theorem dL_isAhead_116 : decode cL_isAhead 116 = .ok (.iload 6, 2) := by decide +kernel
theorem dL_isAhead_118 : decode cL_isAhead 118 = .ok (.if_icmp .ge 8, 3) := by decide +kernel
theorem dL_isAhead_121 : decode cL_isAhead 121 = .ok (.iload 9, 2) := by decide +kernel
theorem dL_isAhead_123 : decode cL_isAhead 123 = .ok (.goto 5, 3) := by decide +kernel
theorem dL_isAhead_126 : decode cL_isAhead 126 = .ok (.iload 6, 2) := by decide +kernel
theorem dL_isAhead_128 : decode cL_isAhead 128 = .ok (.istore 6, 2) := by decide +kernel
theorem dL_isAhead_130 : decode cL_isAhead 130 = .ok (.iinc 7 1, 3) := by decide +kernel
theorem dL_isAhead_133 : decode cL_isAhead 133 = .ok (.goto (-126), 3) := by decide +kernel
theorem dL_isAhead_136 : decode cL_isAhead 136 = .ok (.iconst 0, 1) := by decide +kernel
theorem dL_isAhead_137 : decode cL_isAhead 137 = .ok (.istore 7, 2) := by decide +kernel
theorem dL_isAhead_139 : decode cL_isAhead 139 = .ok (.ldc 84, 2) := by decide +kernel
theorem dL_isAhead_141 : decode cL_isAhead 141 = .ok (.istore 8, 2) := by decide +kernel
theorem dL_isAhead_143 : decode cL_isAhead 143 = .ok (.iconst 0, 1) := by decide +kernel
theorem dL_isAhead_144 : decode cL_isAhead 144 = .ok (.istore 9, 2) := by decide +kernel
theorem dL_isAhead_146 : decode cL_isAhead 146 = .ok (.iload 9, 2) := by decide +kernel
theorem dL_isAhead_148 : decode cL_isAhead 148 = .ok (.bipush 8, 2) := by decide +kernel
theorem dL_isAhead_150 : decode cL_isAhead 150 = .ok (.if_icmp .ge 103, 3) := by decide +kernel
theorem dL_isAhead_153 : decode cL_isAhead 153 = .ok (.iconst 0, 1) := by decide +kernel
theorem dL_isAhead_154 : decode cL_isAhead 154 = .ok (.istore 10, 2) := by decide +kernel
theorem dL_isAhead_156 : decode cL_isAhead 156 = .ok (.iconst 0, 1) := by decide +kernel
theorem dL_isAhead_157 : decode cL_isAhead 157 = .ok (.istore 11, 2) := by decide +kernel
theorem dL_isAhead_159 : decode cL_isAhead 159 = .ok (.iload 11, 2) := by decide +kernel
theorem dL_isAhead_161 : decode cL_isAhead 161 = .ok (.bipush 8, 2) := by decide +kernel
theorem dL_isAhead_163 : decode cL_isAhead 163 = .ok (.if_icmp .ge 52, 3) := by decide +kernel
theorem dL_isAhead_166 : decode cL_isAhead 166 = .ok (.aload_n 0, 1) := by decide +kernel
theorem dL_isAhead_167 : decode cL_isAhead 167 = .ok (.iload 9, 2) := by decide +kernel
theorem dL_isAhead_169 : decode cL_isAhead 169 = .ok (.iload 11, 2) := by decide +kernel
theorem dL_isAhead_171 : decode cL_isAhead 171 = .ok (.invokevirtual 50, 3) := by decide +kernel
theorem dL_isAhead_174 : decode cL_isAhead 174 = .ok (.aload 5, 2) := by decide +kernel
theorem dL_isAhead_176 : decode cL_isAhead 176 = .ok (.iload 11, 2) := by decide +kernel
theorem dL_isAhead_178 : decode cL_isAhead 178 = .ok (.iload 9, 2) := by decide +kernel
theorem dL_isAhead_180 : decode cL_isAhead 180 = .ok (.ixor, 1) := by decide +kernel
theorem dL_isAhead_181 : decode cL_isAhead 181 = .ok (.iaload, 1) := by decide +kernel
theorem dL_isAhead_182 : decode cL_isAhead 182 = .ok (.if_icmp .eq 5, 3) := by decide +kernel
theorem dL_isAhead_185 : decode cL_isAhead 185 = .ok (.iconst 0, 1) := by decide +kernel
theorem dL_isAhead_186 : decode cL_isAhead 186 = .ok (.ireturn, 1) := by decide +kernel
theorem dL_isAhead_187 : decode cL_isAhead 187 = .ok (.iload 10, 2) := by decide +kernel
theorem dL_isAhead_189 : decode cL_isAhead 189 = .ok (.aload 4, 2) := by decide +kernel
theorem dL_isAhead_191 : decode cL_isAhead 191 = .ok (.iload 11, 2) := by decide +kernel
theorem dL_isAhead_193 : decode cL_isAhead 193 = .ok (.iaload, 1) := by decide +kernel
theorem dL_isAhead_194 : decode cL_isAhead 194 = .ok (.aload 5, 2) := by decide +kernel
theorem dL_isAhead_196 : decode cL_isAhead 196 = .ok (.iload 11, 2) := by decide +kernel
theorem dL_isAhead_198 : decode cL_isAhead 198 = .ok (.iload 9, 2) := by decide +kernel
theorem dL_isAhead_200 : decode cL_isAhead 200 = .ok (.ixor, 1) := by decide +kernel
theorem dL_isAhead_201 : decode cL_isAhead 201 = .ok (.iaload, 1) := by decide +kernel
theorem dL_isAhead_202 : decode cL_isAhead 202 = .ok (.isub, 1) := by decide +kernel
theorem dL_isAhead_203 : decode cL_isAhead 203 = .ok (.invokestatic 78, 3) := by decide +kernel
theorem dL_isAhead_206 : decode cL_isAhead 206 = .ok (.iadd, 1) := by decide +kernel
theorem dL_isAhead_207 : decode cL_isAhead 207 = .ok (.istore 10, 2) := by decide +kernel
theorem dL_isAhead_209 : decode cL_isAhead 209 = .ok (.iinc 11 1, 3) := by decide +kernel
theorem dL_isAhead_212 : decode cL_isAhead 212 = .ok (.goto (-53), 3) := by decide +kernel
theorem dL_isAhead_215 : decode cL_isAhead 215 = .ok (.iload 10, 2) := by decide +kernel
theorem dL_isAhead_217 : decode cL_isAhead 217 = .ok (.iload 8, 2) := by decide +kernel
theorem dL_isAhead_219 : decode cL_isAhead 219 = .ok (.if_icmp .ge 8, 3) := by decide +kernel
theorem dL_isAhead_222 : decode cL_isAhead 222 = .ok (.iload 9, 2) := by decide +kernel
theorem dL_isAhead_224 : decode cL_isAhead 224 = .ok (.goto 5, 3) := by decide +kernel
theorem dL_isAhead_227 : decode cL_isAhead 227 = .ok (.iload 7, 2) := by decide +kernel
theorem dL_isAhead_229 : decode cL_isAhead 229 = .ok (.istore 7, 2) := by decide +kernel
theorem dL_isAhead_231 : decode cL_isAhead 231 = .ok (.iload 10, 2) := by decide +kernel
theorem dL_isAhead_233 : decode cL_isAhead 233 = .ok (.iload 8, 2) := by decide +kernel
theorem dL_isAhead_235 : decode cL_isAhead 235 = .ok (.if_icmp .ge 8, 3) := by decide +kernel
theorem dL_isAhead_238 : decode cL_isAhead 238 = .ok (.iload 10, 2) := by decide +kernel
theorem dL_isAhead_240 : decode cL_isAhead 240 = .ok (.goto 5, 3) := by decide +kernel
theorem dL_isAhead_243 : decode cL_isAhead 243 = .ok (.iload 8, 2) := by decide +kernel
theorem dL_isAhead_245 : decode cL_isAhead 245 = .ok (.istore 8, 2) := by decide +kernel
theorem dL_isAhead_247 : decode cL_isAhead 247 = .ok (.iinc 9 1, 3) := by decide +kernel
theorem dL_isAhead_250 : decode cL_isAhead 250 = .ok (.goto (-104), 3) := by decide +kernel
theorem dL_isAhead_253 : decode cL_isAhead 253 = .ok (.aload_n 0, 1) := by decide +kernel
theorem dL_isAhead_254 : decode cL_isAhead 254 = .ok (.iload_n 1, 1) := by decide +kernel
theorem dL_isAhead_255 : decode cL_isAhead 255 = .ok (.iconst 0, 1) := by decide +kernel
theorem dL_isAhead_256 : decode cL_isAhead 256 = .ok (.invokevirtual 47, 3) := by decide +kernel
theorem dL_isAhead_259 : decode cL_isAhead 259 = .ok (.iload 6, 2) := by decide +kernel
theorem dL_isAhead_261 : decode cL_isAhead 261 = .ok (.if_icmp .ne 86, 3) := by decide +kernel
theorem dL_isAhead_264 : decode cL_isAhead 264 = .ok (.aload_n 0, 1) := by decide +kernel
theorem dL_isAhead_265 : decode cL_isAhead 265 = .ok (.iload_n 1, 1) := by decide +kernel
theorem dL_isAhead_266 : decode cL_isAhead 266 = .ok (.iconst 1, 1) := by decide +kernel
theorem dL_isAhead_267 : decode cL_isAhead 267 = .ok (.invokevirtual 47, 3) := by decide +kernel
theorem dL_isAhead_270 : decode cL_isAhead 270 = .ok (.iload 6, 2) := by decide +kernel
theorem dL_isAhead_272 : decode cL_isAhead 272 = .ok (.if_icmp .ne 75, 3) := by decide +kernel
theorem dL_isAhead_275 : decode cL_isAhead 275 = .ok (.aload_n 0, 1) := by decide +kernel
theorem dL_isAhead_276 : decode cL_isAhead 276 = .ok (.invokevirtual 85, 3) := by decide +kernel
theorem dL_isAhead_279 : decode cL_isAhead 279 = .ok (.iload 7, 2) := by decide +kernel
theorem dL_isAhead_281 : decode cL_isAhead 281 = .ok (.if_icmp .ne 66, 3) := by decide +kernel
theorem dL_isAhead_284 : decode cL_isAhead 284 = .ok (.aload_n 0, 1) := by decide +kernel
theorem dL_isAhead_285 : decode cL_isAhead 285 = .ok (.iconst (-1), 1) := by decide +kernel
theorem dL_isAhead_286 : decode cL_isAhead 286 = .ok (.iconst 0, 1) := by decide +kernel
theorem dL_isAhead_287 : decode cL_isAhead 287 = .ok (.invokestatic 88, 3) := by decide +kernel
theorem dL_isAhead_290 : decode cL_isAhead 290 = .ok (.bipush (-32), 2) := by decide +kernel
theorem dL_isAhead_292 : decode cL_isAhead 292 = .ok (.if_icmp .ne 55, 3) := by decide +kernel
theorem dL_isAhead_295 : decode cL_isAhead 295 = .ok (.aload_n 0, 1) := by decide +kernel
theorem dL_isAhead_296 : decode cL_isAhead 296 = .ok (.ldc 91, 2) := by decide +kernel
theorem dL_isAhead_298 : decode cL_isAhead 298 = .ok (.iconst 0, 1) := by decide +kernel
theorem dL_isAhead_299 : decode cL_isAhead 299 = .ok (.invokestatic 88, 3) := by decide +kernel
theorem dL_isAhead_302 : decode cL_isAhead 302 = .ok (.bipush (-32), 2) := by decide +kernel
theorem dL_isAhead_304 : decode cL_isAhead 304 = .ok (.if_icmp .ne 43, 3) := by decide +kernel
theorem dL_isAhead_307 : decode cL_isAhead 307 = .ok (.aload_n 0, 1) := by decide +kernel
theorem dL_isAhead_308 : decode cL_isAhead 308 = .ok (.iconst 0, 1) := by decide +kernel
theorem dL_isAhead_309 : decode cL_isAhead 309 = .ok (.iconst 2, 1) := by decide +kernel
theorem dL_isAhead_310 : decode cL_isAhead 310 = .ok (.invokestatic 88, 3) := by decide +kernel
theorem dL_isAhead_313 : decode cL_isAhead 313 = .ok (.bipush (-32), 2) := by decide +kernel
theorem dL_isAhead_315 : decode cL_isAhead 315 = .ok (.if_icmp .ne 32, 3) := by decide +kernel
theorem dL_isAhead_318 : decode cL_isAhead 318 = .ok (.aload_n 0, 1) := by decide +kernel
theorem dL_isAhead_319 : decode cL_isAhead 319 = .ok (.bipush 8, 2) := by decide +kernel
theorem dL_isAhead_321 : decode cL_isAhead 321 = .ok (.bipush 8, 2) := by decide +kernel
theorem dL_isAhead_323 : decode cL_isAhead 323 = .ok (.invokestatic 92, 3) := by decide +kernel
theorem dL_isAhead_326 : decode cL_isAhead 326 = .ok (.bipush (-31), 2) := by decide +kernel
theorem dL_isAhead_328 : decode cL_isAhead 328 = .ok (.if_icmp .ne 19, 3) := by decide +kernel
theorem dL_isAhead_331 : decode cL_isAhead 331 = .ok (.aload_n 0, 1) := by decide +kernel
theorem dL_isAhead_332 : decode cL_isAhead 332 = .ok (.bipush 8, 2) := by decide +kernel
theorem dL_isAhead_334 : decode cL_isAhead 334 = .ok (.iconst 0, 1) := by decide +kernel
theorem dL_isAhead_335 : decode cL_isAhead 335 = .ok (.invokestatic 92, 3) := by decide +kernel
theorem dL_isAhead_338 : decode cL_isAhead 338 = .ok (.bipush (-32), 2) := by decide +kernel
theorem dL_isAhead_340 : decode cL_isAhead 340 = .ok (.if_icmp .ne 7, 3) := by decide +kernel
theorem dL_isAhead_343 : decode cL_isAhead 343 = .ok (.iconst 1, 1) := by decide +kernel
theorem dL_isAhead_344 : decode cL_isAhead 344 = .ok (.goto 4, 3) := by decide +kernel
theorem dL_isAhead_347 : decode cL_isAhead 347 = .ok (.iconst 0, 1) := by decide +kernel
theorem dL_isAhead_348 : decode cL_isAhead 348 = .ok (.ireturn, 1) := by decide +kernel

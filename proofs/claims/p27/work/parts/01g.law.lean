set_option maxRecDepth 20000 in
theorem ggL_areWheels_L_halves : GoodIn wsL_areWheels wsL_halves := goodIn_r _ [5] (by decide +kernel) (by decide +kernel)
set_option maxRecDepth 20000 in
theorem gL_areWheels_L_halves : GoodIn wsL_areWheels (va_wsS RL 53 yL_halves wsL_halves) := goodIn_app (goodIn_of _ (by decide +kernel)) ggL_areWheels_L_halves
set_option maxRecDepth 20000 in
theorem ggL_areWheels_L_wave : GoodIn wsL_areWheels wsL_wave := goodIn_r _ [8] (by decide +kernel) (by decide +kernel)
set_option maxRecDepth 20000 in
theorem gL_areWheels_L_wave : GoodIn wsL_areWheels (va_wsS RL 61 yL_wave wsL_wave) := goodIn_app (goodIn_of _ (by decide +kernel)) ggL_areWheels_L_wave
set_option maxRecDepth 20000 in
theorem ggL_areWheels_X3_wheelOf : GoodIn wsL_areWheels wsX3_wheelOf := goodIn_ca (goodIn_ca (goodIn_r _ [13, 14, 15, 16, 17, 18, 19, 12, 20, 21, 22, 23, 24, 25, 26, 27, 28, 29, 30, 31, 32, 33, 34, 35, 36, 37, 38, 39, 40, 41, 42, 43, 44, 45, 46, 47, 48, 49, 50, 51, 52, 53, 54, 125, 126, 127, 128, 129, 130, 131, 132, 133, 134] (by decide +kernel) (by decide +kernel)) (goodIn_sub (fun _ h => List.mem_cons_of_mem _ (List.mem_append_left _ (List.mem_append_right _ h))) (by decide +kernel))) (goodIn_sub (fun _ h => List.mem_cons_of_mem _ (List.mem_append_right _ h)) (by decide +kernel))
set_option maxRecDepth 20000 in
theorem gL_areWheels_X3_wheelOf : GoodIn wsL_areWheels (wsV RL 38 RX3 yX3_wheelOf wsX3_wheelOf) := goodIn_app (goodIn_of _ (by decide +kernel)) ggL_areWheels_X3_wheelOf
set_option maxRecDepth 20000 in
theorem ggL_areWheels_L_eighth : GoodIn wsL_areWheels wsL_eighth := goodIn_r _ [57, 58, 59] (by decide +kernel) (by decide +kernel)
set_option maxRecDepth 20000 in
theorem gL_areWheels_L_eighth : GoodIn wsL_areWheels (va_wsS RL 64 yL_eighth wsL_eighth) := goodIn_app (goodIn_of _ (by decide +kernel)) ggL_areWheels_L_eighth
set_option maxRecDepth 20000 in
theorem ggL_areWheels_X3_count : GoodIn wsL_areWheels wsX3_count := goodIn_ca (goodIn_r _ [63, 16, 17, 21, 22, 12, 23, 64, 65, 66, 67, 28, 68, 69, 30, 70, 71, 72, 40, 41, 42, 43, 44, 45, 46, 73, 74, 75, 76, 77, 78, 79, 80, 81, 82, 83, 84, 85, 86, 87, 88, 29, 31, 32, 33, 38, 39, 89, 90, 91, 92, 93, 94, 95, 96, 97, 98, 99, 100, 101, 102, 103, 104, 105, 37, 106, 107, 108, 109, 110, 111, 112, 113, 114, 115, 116, 117, 125, 126, 127, 128, 129, 130, 131, 132, 133, 134, 135, 136, 137] (by decide +kernel) (by decide +kernel)) (goodIn_sub (fun _ h => List.mem_cons_of_mem _ (List.mem_append_right _ h)) (by decide +kernel))
set_option maxRecDepth 20000 in
theorem gL_areWheels_X3_count : GoodIn wsL_areWheels (wsV RL 67 RX3 yX3_count wsX3_count) := goodIn_app (goodIn_of _ (by decide +kernel)) ggL_areWheels_X3_count
set_option maxRecDepth 20000 in
theorem ggL_areWheels_L_turning : GoodIn wsL_areWheels wsL_turning := goodIn_r _ [120] (by decide +kernel) (by decide +kernel)
set_option maxRecDepth 20000 in
theorem gL_areWheels_L_turning : GoodIn wsL_areWheels (va_wsS RL 70 yL_turning wsL_turning) := goodIn_app (goodIn_of _ (by decide +kernel)) ggL_areWheels_L_turning
set_option maxRecDepth 20000 in
theorem ggL_areWheels_X3_mainShare : GoodIn wsL_areWheels wsX3_mainShare := goodIn_r _ [124, 28, 77, 78, 79, 80, 85, 30, 86, 87, 72, 88, 29, 31, 32, 33, 125, 126, 127, 128, 129, 130, 131, 132, 133, 134] (by decide +kernel) (by decide +kernel)
set_option maxRecDepth 20000 in
theorem gL_areWheels_X3_mainShare : GoodIn wsL_areWheels (wsV RL 74 RX3 yX3_mainShare wsX3_mainShare) := goodIn_app (goodIn_of _ (by decide +kernel)) ggL_areWheels_X3_mainShare
theorem dL_areWheels_0 : decode cL_areWheels 0 = .ok (.iconst 0, 1) := by decide +kernel
theorem dL_areWheels_1 : decode cL_areWheels 1 = .ok (.istore 4, 2) := by decide +kernel
theorem dL_areWheels_3 : decode cL_areWheels 3 = .ok (.bipush 8, 2) := by decide +kernel
theorem dL_areWheels_5 : decode cL_areWheels 5 = .ok (.newarray .int, 2) := by decide +kernel
theorem dL_areWheels_7 : decode cL_areWheels 7 = .ok (.astore 5, 2) := by decide +kernel
theorem dL_areWheels_9 : decode cL_areWheels 9 = .ok (.iconst 0, 1) := by decide +kernel
theorem dL_areWheels_10 : decode cL_areWheels 10 = .ok (.istore 6, 2) := by decide +kernel
theorem dL_areWheels_12 : decode cL_areWheels 12 = .ok (.iload 6, 2) := by decide +kernel
theorem dL_areWheels_14 : decode cL_areWheels 14 = .ok (.bipush 8, 2) := by decide +kernel
theorem dL_areWheels_16 : decode cL_areWheels 16 = .ok (.if_icmp .ge 18, 3) := by decide +kernel
theorem dL_areWheels_19 : decode cL_areWheels 19 = .ok (.aload 5, 2) := by decide +kernel
theorem dL_areWheels_21 : decode cL_areWheels 21 = .ok (.iload 6, 2) := by decide +kernel
theorem dL_areWheels_23 : decode cL_areWheels 23 = .ok (.aload_n 3, 1) := by decide +kernel
theorem dL_areWheels_24 : decode cL_areWheels 24 = .ok (.iload 6, 2) := by decide +kernel
theorem dL_areWheels_26 : decode cL_areWheels 26 = .ok (.iaload, 1) := by decide +kernel
theorem dL_areWheels_27 : decode cL_areWheels 27 = .ok (.iastore, 1) := by decide +kernel
theorem dL_areWheels_28 : decode cL_areWheels 28 = .ok (.iinc 6 1, 3) := by decide +kernel
theorem dL_areWheels_31 : decode cL_areWheels 31 = .ok (.goto (-19), 3) := by decide +kernel
theorem dL_areWheels_34 : decode cL_areWheels 34 = .ok (.aload 5, 2) := by decide +kernel
theorem dL_areWheels_36 : decode cL_areWheels 36 = .ok (.invokestatic 53, 3) := by decide +kernel
theorem dL_areWheels_39 : decode cL_areWheels 39 = .ok (.iconst 0, 1) := by decide +kernel
theorem dL_areWheels_40 : decode cL_areWheels 40 = .ok (.istore 6, 2) := by decide +kernel
theorem dL_areWheels_42 : decode cL_areWheels 42 = .ok (.iload 6, 2) := by decide +kernel
theorem dL_areWheels_44 : decode cL_areWheels 44 = .ok (.bipush 8, 2) := by decide +kernel
theorem dL_areWheels_46 : decode cL_areWheels 46 = .ok (.if_icmp .ge 126, 3) := by decide +kernel
theorem dL_areWheels_49 : decode cL_areWheels 49 = .ok (.iconst 0, 1) := by decide +kernel
theorem dL_areWheels_50 : decode cL_areWheels 50 = .ok (.istore 7, 2) := by decide +kernel
theorem dL_areWheels_52 : decode cL_areWheels 52 = .ok (.iconst 0, 1) := by decide +kernel
theorem dL_areWheels_53 : decode cL_areWheels 53 = .ok (.istore 8, 2) := by decide +kernel
theorem dL_areWheels_55 : decode cL_areWheels 55 = .ok (.iload 8, 2) := by decide +kernel
theorem dL_areWheels_57 : decode cL_areWheels 57 = .ok (.bipush 7, 2) := by decide +kernel
theorem dL_areWheels_59 : decode cL_areWheels 59 = .ok (.if_icmp .ge 38, 3) := by decide +kernel
theorem dL_areWheels_62 : decode cL_areWheels 62 = .ok (.iload 7, 2) := by decide +kernel
theorem dL_areWheels_64 : decode cL_areWheels 64 = .ok (.iload 6, 2) := by decide +kernel
theorem dL_areWheels_66 : decode cL_areWheels 66 = .ok (.iload 8, 2) := by decide +kernel
theorem dL_areWheels_68 : decode cL_areWheels 68 = .ok (.invokestatic 61, 3) := by decide +kernel
theorem dL_areWheels_71 : decode cL_areWheels 71 = .ok (.iload 6, 2) := by decide +kernel
theorem dL_areWheels_73 : decode cL_areWheels 73 = .ok (.iload 8, 2) := by decide +kernel
theorem dL_areWheels_75 : decode cL_areWheels 75 = .ok (.iconst 1, 1) := by decide +kernel
theorem dL_areWheels_76 : decode cL_areWheels 76 = .ok (.iadd, 1) := by decide +kernel
theorem dL_areWheels_77 : decode cL_areWheels 77 = .ok (.invokestatic 61, 3) := by decide +kernel
theorem dL_areWheels_80 : decode cL_areWheels 80 = .ok (.if_icmp .eq 7, 3) := by decide +kernel
theorem dL_areWheels_83 : decode cL_areWheels 83 = .ok (.iconst 1, 1) := by decide +kernel
theorem dL_areWheels_84 : decode cL_areWheels 84 = .ok (.goto 4, 3) := by decide +kernel
theorem dL_areWheels_87 : decode cL_areWheels 87 = .ok (.iconst 0, 1) := by decide +kernel
theorem dL_areWheels_88 : decode cL_areWheels 88 = .ok (.iadd, 1) := by decide +kernel
theorem dL_areWheels_89 : decode cL_areWheels 89 = .ok (.istore 7, 2) := by decide +kernel
theorem dL_areWheels_91 : decode cL_areWheels 91 = .ok (.iinc 8 1, 3) := by decide +kernel
theorem dL_areWheels_94 : decode cL_areWheels 94 = .ok (.goto (-39), 3) := by decide +kernel
theorem dL_areWheels_97 : decode cL_areWheels 97 = .ok (.iload 4, 2) := by decide +kernel
theorem dL_areWheels_99 : decode cL_areWheels 99 = .ok (.aload_n 2, 1) := by decide +kernel
theorem dL_areWheels_100 : decode cL_areWheels 100 = .ok (.iload 6, 2) := by decide +kernel
theorem dL_areWheels_102 : decode cL_areWheels 102 = .ok (.iaload, 1) := by decide +kernel
theorem dL_areWheels_103 : decode cL_areWheels 103 = .ok (.iadd, 1) := by decide +kernel
theorem dL_areWheels_104 : decode cL_areWheels 104 = .ok (.istore 4, 2) := by decide +kernel
theorem dL_areWheels_106 : decode cL_areWheels 106 = .ok (.aload_n 0, 1) := by decide +kernel
theorem dL_areWheels_107 : decode cL_areWheels 107 = .ok (.iload 6, 2) := by decide +kernel
theorem dL_areWheels_109 : decode cL_areWheels 109 = .ok (.iconst 0, 1) := by decide +kernel
theorem dL_areWheels_110 : decode cL_areWheels 110 = .ok (.invokevirtual 38, 3) := by decide +kernel
theorem dL_areWheels_113 : decode cL_areWheels 113 = .ok (.aload_n 1, 1) := by decide +kernel
theorem dL_areWheels_114 : decode cL_areWheels 114 = .ok (.iload 6, 2) := by decide +kernel
theorem dL_areWheels_116 : decode cL_areWheels 116 = .ok (.iaload, 1) := by decide +kernel
theorem dL_areWheels_117 : decode cL_areWheels 117 = .ok (.if_icmp .ne 47, 3) := by decide +kernel
theorem dL_areWheels_120 : decode cL_areWheels 120 = .ok (.aload_n 0, 1) := by decide +kernel
theorem dL_areWheels_121 : decode cL_areWheels 121 = .ok (.iload 6, 2) := by decide +kernel
theorem dL_areWheels_123 : decode cL_areWheels 123 = .ok (.iconst 1, 1) := by decide +kernel
theorem dL_areWheels_124 : decode cL_areWheels 124 = .ok (.invokevirtual 38, 3) := by decide +kernel
theorem dL_areWheels_127 : decode cL_areWheels 127 = .ok (.aload_n 2, 1) := by decide +kernel
theorem dL_areWheels_128 : decode cL_areWheels 128 = .ok (.iload 6, 2) := by decide +kernel
theorem dL_areWheels_130 : decode cL_areWheels 130 = .ok (.iaload, 1) := by decide +kernel
theorem dL_areWheels_131 : decode cL_areWheels 131 = .ok (.if_icmp .ne 33, 3) := by decide +kernel
theorem dL_areWheels_134 : decode cL_areWheels 134 = .ok (.aload_n 0, 1) := by decide +kernel
theorem dL_areWheels_135 : decode cL_areWheels 135 = .ok (.iload 6, 2) := by decide +kernel
theorem dL_areWheels_137 : decode cL_areWheels 137 = .ok (.iconst 2, 1) := by decide +kernel
theorem dL_areWheels_138 : decode cL_areWheels 138 = .ok (.invokevirtual 38, 3) := by decide +kernel
theorem dL_areWheels_141 : decode cL_areWheels 141 = .ok (.aload 5, 2) := by decide +kernel
theorem dL_areWheels_143 : decode cL_areWheels 143 = .ok (.iload 6, 2) := by decide +kernel
theorem dL_areWheels_145 : decode cL_areWheels 145 = .ok (.iaload, 1) := by decide +kernel
theorem dL_areWheels_146 : decode cL_areWheels 146 = .ok (.invokestatic 64, 3) := by decide +kernel
theorem dL_areWheels_149 : decode cL_areWheels 149 = .ok (.if_icmp .ne 15, 3) := by decide +kernel
theorem dL_areWheels_152 : decode cL_areWheels 152 = .ok (.aload_n 0, 1) := by decide +kernel
theorem dL_areWheels_153 : decode cL_areWheels 153 = .ok (.iload 6, 2) := by decide +kernel
theorem dL_areWheels_155 : decode cL_areWheels 155 = .ok (.iconst 3, 1) := by decide +kernel
theorem dL_areWheels_156 : decode cL_areWheels 156 = .ok (.invokevirtual 38, 3) := by decide +kernel
theorem dL_areWheels_159 : decode cL_areWheels 159 = .ok (.iload 7, 2) := by decide +kernel
theorem dL_areWheels_161 : decode cL_areWheels 161 = .ok (.if_icmp .eq 5, 3) := by decide +kernel
theorem dL_areWheels_164 : decode cL_areWheels 164 = .ok (.iconst 0, 1) := by decide +kernel
theorem dL_areWheels_165 : decode cL_areWheels 165 = .ok (.ireturn, 1) := by decide +kernel
theorem dL_areWheels_166 : decode cL_areWheels 166 = .ok (.iinc 6 1, 3) := by decide +kernel
theorem dL_areWheels_169 : decode cL_areWheels 169 = .ok (.goto (-127), 3) := by decide +kernel
theorem dL_areWheels_172 : decode cL_areWheels 172 = .ok (.iconst 0, 1) := by decide +kernel
theorem dL_areWheels_173 : decode cL_areWheels 173 = .ok (.istore 6, 2) := by decide +kernel
theorem dL_areWheels_175 : decode cL_areWheels 175 = .ok (.iconst 0, 1) := by decide +kernel
theorem dL_areWheels_176 : decode cL_areWheels 176 = .ok (.istore 7, 2) := by decide +kernel
theorem dL_areWheels_178 : decode cL_areWheels 178 = .ok (.iconst 0, 1) := by decide +kernel
theorem dL_areWheels_179 : decode cL_areWheels 179 = .ok (.istore 8, 2) := by decide +kernel
theorem dL_areWheels_181 : decode cL_areWheels 181 = .ok (.iload 8, 2) := by decide +kernel
theorem dL_areWheels_183 : decode cL_areWheels 183 = .ok (.bipush 8, 2) := by decide +kernel
theorem dL_areWheels_185 : decode cL_areWheels 185 = .ok (.if_icmp .ge 55, 3) := by decide +kernel
theorem dL_areWheels_188 : decode cL_areWheels 188 = .ok (.aload_n 2, 1) := by decide +kernel
theorem dL_areWheels_189 : decode cL_areWheels 189 = .ok (.iload 8, 2) := by decide +kernel
theorem dL_areWheels_191 : decode cL_areWheels 191 = .ok (.iaload, 1) := by decide +kernel
theorem dL_areWheels_192 : decode cL_areWheels 192 = .ok (.iconst 1, 1) := by decide +kernel
theorem dL_areWheels_193 : decode cL_areWheels 193 = .ok (.if_icmp .ne 7, 3) := by decide +kernel
theorem dL_areWheels_196 : decode cL_areWheels 196 = .ok (.iconst 0, 1) := by decide +kernel
theorem dL_areWheels_197 : decode cL_areWheels 197 = .ok (.goto 12, 3) := by decide +kernel
theorem dL_areWheels_200 : decode cL_areWheels 200 = .ok (.aload_n 1, 1) := by decide +kernel
theorem dL_areWheels_201 : decode cL_areWheels 201 = .ok (.iload 8, 2) := by decide +kernel
theorem dL_areWheels_203 : decode cL_areWheels 203 = .ok (.iaload, 1) := by decide +kernel
theorem dL_areWheels_204 : decode cL_areWheels 204 = .ok (.aload_n 1, 1) := by decide +kernel
theorem dL_areWheels_205 : decode cL_areWheels 205 = .ok (.iload 8, 2) := by decide +kernel
theorem dL_areWheels_207 : decode cL_areWheels 207 = .ok (.iaload, 1) := by decide +kernel
theorem dL_areWheels_208 : decode cL_areWheels 208 = .ok (.imul, 1) := by decide +kernel
theorem dL_areWheels_209 : decode cL_areWheels 209 = .ok (.istore 9, 2) := by decide +kernel
theorem dL_areWheels_211 : decode cL_areWheels 211 = .ok (.iload 9, 2) := by decide +kernel
theorem dL_areWheels_213 : decode cL_areWheels 213 = .ok (.iload 6, 2) := by decide +kernel
theorem dL_areWheels_215 : decode cL_areWheels 215 = .ok (.if_icmp .le 8, 3) := by decide +kernel
theorem dL_areWheels_218 : decode cL_areWheels 218 = .ok (.iload 9, 2) := by decide +kernel
theorem dL_areWheels_220 : decode cL_areWheels 220 = .ok (.goto 5, 3) := by decide +kernel
theorem dL_areWheels_223 : decode cL_areWheels 223 = .ok (.iload 6, 2) := by decide +kernel
theorem dL_areWheels_225 : decode cL_areWheels 225 = .ok (.istore 6, 2) := by decide +kernel
theorem dL_areWheels_227 : decode cL_areWheels 227 = .ok (.iload 7, 2) := by decide +kernel
theorem dL_areWheels_229 : decode cL_areWheels 229 = .ok (.iload 9, 2) := by decide +kernel
theorem dL_areWheels_231 : decode cL_areWheels 231 = .ok (.iadd, 1) := by decide +kernel
theorem dL_areWheels_232 : decode cL_areWheels 232 = .ok (.istore 7, 2) := by decide +kernel
theorem dL_areWheels_234 : decode cL_areWheels 234 = .ok (.iinc 8 1, 3) := by decide +kernel
theorem dL_areWheels_237 : decode cL_areWheels 237 = .ok (.goto (-56), 3) := by decide +kernel
theorem dL_areWheels_240 : decode cL_areWheels 240 = .ok (.aload_n 0, 1) := by decide +kernel
theorem dL_areWheels_241 : decode cL_areWheels 241 = .ok (.iconst 0, 1) := by decide +kernel
theorem dL_areWheels_242 : decode cL_areWheels 242 = .ok (.invokevirtual 67, 3) := by decide +kernel
theorem dL_areWheels_245 : decode cL_areWheels 245 = .ok (.aload_n 1, 1) := by decide +kernel
theorem dL_areWheels_246 : decode cL_areWheels 246 = .ok (.invokestatic 70, 3) := by decide +kernel
theorem dL_areWheels_249 : decode cL_areWheels 249 = .ok (.if_icmp .ne 41, 3) := by decide +kernel
theorem dL_areWheels_252 : decode cL_areWheels 252 = .ok (.aload_n 0, 1) := by decide +kernel
theorem dL_areWheels_253 : decode cL_areWheels 253 = .ok (.iconst 1, 1) := by decide +kernel
theorem dL_areWheels_254 : decode cL_areWheels 254 = .ok (.invokevirtual 67, 3) := by decide +kernel
theorem dL_areWheels_257 : decode cL_areWheels 257 = .ok (.iload 4, 2) := by decide +kernel
theorem dL_areWheels_259 : decode cL_areWheels 259 = .ok (.if_icmp .ne 31, 3) := by decide +kernel
theorem dL_areWheels_262 : decode cL_areWheels 262 = .ok (.aload_n 0, 1) := by decide +kernel
theorem dL_areWheels_263 : decode cL_areWheels 263 = .ok (.invokevirtual 74, 3) := by decide +kernel
theorem dL_areWheels_266 : decode cL_areWheels 266 = .ok (.iload 7, 2) := by decide +kernel
theorem dL_areWheels_268 : decode cL_areWheels 268 = .ok (.ifCond .ne 7, 3) := by decide +kernel
theorem dL_areWheels_271 : decode cL_areWheels 271 = .ok (.dconst 0, 1) := by decide +kernel
theorem dL_areWheels_272 : decode cL_areWheels 272 = .ok (.goto 10, 3) := by decide +kernel
theorem dL_areWheels_275 : decode cL_areWheels 275 = .ok (.iload 6, 2) := by decide +kernel
theorem dL_areWheels_277 : decode cL_areWheels 277 = .ok (.i2d, 1) := by decide +kernel
theorem dL_areWheels_278 : decode cL_areWheels 278 = .ok (.iload 7, 2) := by decide +kernel
theorem dL_areWheels_280 : decode cL_areWheels 280 = .ok (.i2d, 1) := by decide +kernel
theorem dL_areWheels_281 : decode cL_areWheels 281 = .ok (.ddiv, 1) := by decide +kernel
theorem dL_areWheels_282 : decode cL_areWheels 282 = .ok (.dcmp .l, 1) := by decide +kernel
theorem dL_areWheels_283 : decode cL_areWheels 283 = .ok (.ifCond .ne 7, 3) := by decide +kernel
theorem dL_areWheels_286 : decode cL_areWheels 286 = .ok (.iconst 1, 1) := by decide +kernel
theorem dL_areWheels_287 : decode cL_areWheels 287 = .ok (.goto 4, 3) := by decide +kernel
theorem dL_areWheels_290 : decode cL_areWheels 290 = .ok (.iconst 0, 1) := by decide +kernel
theorem dL_areWheels_291 : decode cL_areWheels 291 = .ok (.ireturn, 1) := by decide +kernel

set_option maxRecDepth 20000 in
theorem ggL_arePoints_X3_trace : GoodIn wsL_arePoints wsX3_trace := goodIn_ca (goodIn_ca (goodIn_r _ [6, 7, 8, 9, 10, 11, 12, 5, 13, 14, 15, 16, 17, 18, 19, 20, 21, 22, 23, 24, 25, 26, 27, 28, 29, 30, 31, 32, 33, 34, 35, 36, 37, 38, 39, 40, 41, 42, 43, 44, 45, 46, 47, 48, 49, 127, 128, 129, 130, 131, 132, 133, 134, 135, 136] (by decide +kernel) (by decide +kernel)) (goodIn_sub (fun _ h => List.mem_cons_of_mem _ (List.mem_append_left _ (List.mem_append_right _ h))) (by decide +kernel))) (goodIn_sub (fun _ h => List.mem_cons_of_mem _ (List.mem_append_right _ h)) (by decide +kernel))
set_option maxRecDepth 20000 in
theorem gL_arePoints_X3_trace : GoodIn wsL_arePoints (wsV RL 41 RX3 yX3_trace wsX3_trace) := goodIn_app (goodIn_of _ (by decide +kernel)) ggL_arePoints_X3_trace
set_option maxRecDepth 20000 in
theorem ggL_arePoints_X3_pointOf : GoodIn wsL_arePoints wsX3_pointOf := goodIn_ca (goodIn_ca (goodIn_r _ [53, 7, 8, 9, 10, 11, 12, 5, 13, 14, 15, 16, 54, 55, 56, 57, 21, 58, 24, 59, 60, 61, 62, 23, 25, 26, 27, 28, 29, 30, 31, 32, 33, 34, 35, 36, 37, 38, 39, 40, 41, 42, 43, 44, 45, 63, 64, 65, 127, 128, 129, 130, 131, 132, 133, 134, 135, 136] (by decide +kernel) (by decide +kernel)) (goodIn_sub (fun _ h => List.mem_cons_of_mem _ (List.mem_append_left _ (List.mem_append_right _ h))) (by decide +kernel))) (goodIn_sub (fun _ h => List.mem_cons_of_mem _ (List.mem_append_right _ h)) (by decide +kernel))
set_option maxRecDepth 20000 in
theorem gL_arePoints_X3_pointOf : GoodIn wsL_arePoints (wsV RL 44 RX3 yX3_pointOf wsX3_pointOf) := goodIn_app (goodIn_of _ (by decide +kernel)) ggL_arePoints_X3_pointOf
set_option maxRecDepth 20000 in
theorem ggL_arePoints_L_amount : GoodIn wsL_arePoints wsL_amount := goodIn_r _ [69] (by decide +kernel) (by decide +kernel)
set_option maxRecDepth 20000 in
theorem gL_arePoints_L_amount : GoodIn wsL_arePoints (va_wsS RL 78 yL_amount wsL_amount) := goodIn_app (goodIn_of _ (by decide +kernel)) ggL_arePoints_L_amount
set_option maxRecDepth 20000 in
theorem ggL_arePoints_L_halves : GoodIn wsL_arePoints wsL_halves := goodIn_r _ [72] (by decide +kernel) (by decide +kernel)
set_option maxRecDepth 20000 in
theorem gL_arePoints_L_halves : GoodIn wsL_arePoints (va_wsS RL 53 yL_halves wsL_halves) := goodIn_app (goodIn_of _ (by decide +kernel)) ggL_arePoints_L_halves
set_option maxRecDepth 20000 in
theorem ggL_arePoints_X3_count : GoodIn wsL_arePoints wsX3_count := goodIn_ca (goodIn_r _ [76, 9, 10, 14, 15, 5, 16, 77, 78, 79, 80, 21, 81, 82, 24, 83, 84, 31, 39, 40, 41, 42, 43, 44, 45, 85, 86, 87, 88, 89, 90, 91, 92, 23, 25, 26, 27, 28, 29, 30, 32, 33, 34, 35, 36, 37, 38, 93, 94, 95, 96, 97, 98, 99, 100, 101, 102, 103, 104, 105, 106, 58, 59, 60, 61, 62, 107, 108, 109, 110, 63, 64, 65, 111, 112, 113, 114, 127, 128, 129, 130, 131, 132, 133, 134, 135, 136, 137, 138, 139] (by decide +kernel) (by decide +kernel)) (goodIn_sub (fun _ h => List.mem_cons_of_mem _ (List.mem_append_right _ h)) (by decide +kernel))
set_option maxRecDepth 20000 in
theorem gL_arePoints_X3_count : GoodIn wsL_arePoints (wsV RL 67 RX3 yX3_count wsX3_count) := goodIn_app (goodIn_of _ (by decide +kernel)) ggL_arePoints_X3_count
set_option maxRecDepth 20000 in
theorem ggL_arePoints_X3_findLost : GoodIn wsL_arePoints wsX3_findLost := goodIn_r _ [118, 21, 58, 24, 59, 60, 61, 62, 23, 25, 26, 27, 28, 29, 30, 31, 32, 33, 34, 35, 36, 37, 5, 38, 39, 40, 41, 42, 43, 44, 45, 119, 120, 121, 122, 123, 127, 128, 129, 130, 131, 132, 133, 134, 135, 136] (by decide +kernel) (by decide +kernel)
set_option maxRecDepth 20000 in
theorem gL_arePoints_X3_findLost : GoodIn wsL_arePoints (wsV RL 81 RX3 yX3_findLost wsX3_findLost) := goodIn_app (goodIn_of _ (by decide +kernel)) ggL_arePoints_X3_findLost
set_option maxRecDepth 20000 in
theorem ggL_arePoints_L_turning : GoodIn wsL_arePoints wsL_turning := goodIn_r _ [126] (by decide +kernel) (by decide +kernel)
set_option maxRecDepth 20000 in
theorem gL_arePoints_L_turning : GoodIn wsL_arePoints (va_wsS RL 70 yL_turning wsL_turning) := goodIn_app (goodIn_of _ (by decide +kernel)) ggL_arePoints_L_turning
theorem dL_arePoints_0 : decode cL_arePoints 0 = .ok (.sipush (-9999), 3) := by decide +kernel
theorem dL_arePoints_3 : decode cL_arePoints 3 = .ok (.istore 5, 2) := by decide +kernel
theorem dL_arePoints_5 : decode cL_arePoints 5 = .ok (.sipush 9999, 3) := by decide +kernel
theorem dL_arePoints_8 : decode cL_arePoints 8 = .ok (.istore 6, 2) := by decide +kernel
theorem dL_arePoints_10 : decode cL_arePoints 10 = .ok (.iconst 0, 1) := by decide +kernel
theorem dL_arePoints_11 : decode cL_arePoints 11 = .ok (.istore 7, 2) := by decide +kernel
theorem dL_arePoints_13 : decode cL_arePoints 13 = .ok (.iconst 0, 1) := by decide +kernel
theorem dL_arePoints_14 : decode cL_arePoints 14 = .ok (.istore 8, 2) := by decide +kernel
theorem dL_arePoints_16 : decode cL_arePoints 16 = .ok (.iconst 0, 1) := by decide +kernel
theorem dL_arePoints_17 : decode cL_arePoints 17 = .ok (.istore 9, 2) := by decide +kernel
theorem dL_arePoints_19 : decode cL_arePoints 19 = .ok (.iload 9, 2) := by decide +kernel
theorem dL_arePoints_21 : decode cL_arePoints 21 = .ok (.bipush 8, 2) := by decide +kernel
theorem dL_arePoints_23 : decode cL_arePoints 23 = .ok (.if_icmp .ge 217, 3) := by decide +kernel
theorem dL_arePoints_26 : decode cL_arePoints 26 = .ok (.aload 4, 2) := by decide +kernel
theorem dL_arePoints_28 : decode cL_arePoints 28 = .ok (.iload 9, 2) := by decide +kernel
theorem dL_arePoints_30 : decode cL_arePoints 30 = .ok (.bipush 7, 2) := by decide +kernel
theorem dL_arePoints_32 : decode cL_arePoints 32 = .ok (.if_icmp .ne 7, 3) := by decide +kernel
theorem dL_arePoints_35 : decode cL_arePoints 35 = .ok (.iconst 0, 1) := by decide +kernel
theorem dL_arePoints_36 : decode cL_arePoints 36 = .ok (.goto 7, 3) := by decide +kernel
theorem dL_arePoints_39 : decode cL_arePoints 39 = .ok (.iload 9, 2) := by decide +kernel
theorem dL_arePoints_41 : decode cL_arePoints 41 = .ok (.iconst 1, 1) := by decide +kernel
theorem dL_arePoints_42 : decode cL_arePoints 42 = .ok (.iadd, 1) := by decide +kernel
theorem dL_arePoints_43 : decode cL_arePoints 43 = .ok (.iaload, 1) := by decide +kernel
theorem dL_arePoints_44 : decode cL_arePoints 44 = .ok (.aload 4, 2) := by decide +kernel
theorem dL_arePoints_46 : decode cL_arePoints 46 = .ok (.iload 9, 2) := by decide +kernel
theorem dL_arePoints_48 : decode cL_arePoints 48 = .ok (.iaload, 1) := by decide +kernel
theorem dL_arePoints_49 : decode cL_arePoints 49 = .ok (.isub, 1) := by decide +kernel
theorem dL_arePoints_50 : decode cL_arePoints 50 = .ok (.istore 10, 2) := by decide +kernel
theorem dL_arePoints_52 : decode cL_arePoints 52 = .ok (.aload_n 0, 1) := by decide +kernel
theorem dL_arePoints_53 : decode cL_arePoints 53 = .ok (.iload 9, 2) := by decide +kernel
theorem dL_arePoints_55 : decode cL_arePoints 55 = .ok (.iconst 0, 1) := by decide +kernel
theorem dL_arePoints_56 : decode cL_arePoints 56 = .ok (.invokevirtual 41, 3) := by decide +kernel
theorem dL_arePoints_59 : decode cL_arePoints 59 = .ok (.aload 4, 2) := by decide +kernel
theorem dL_arePoints_61 : decode cL_arePoints 61 = .ok (.iload 9, 2) := by decide +kernel
theorem dL_arePoints_63 : decode cL_arePoints 63 = .ok (.iaload, 1) := by decide +kernel
theorem dL_arePoints_64 : decode cL_arePoints 64 = .ok (.if_icmp .ne 64, 3) := by decide +kernel
theorem dL_arePoints_67 : decode cL_arePoints 67 = .ok (.aload_n 0, 1) := by decide +kernel
theorem dL_arePoints_68 : decode cL_arePoints 68 = .ok (.iload 9, 2) := by decide +kernel
theorem dL_arePoints_70 : decode cL_arePoints 70 = .ok (.iconst 1, 1) := by decide +kernel
theorem dL_arePoints_71 : decode cL_arePoints 71 = .ok (.invokevirtual 41, 3) := by decide +kernel
theorem dL_arePoints_74 : decode cL_arePoints 74 = .ok (.aload 4, 2) := by decide +kernel
theorem dL_arePoints_76 : decode cL_arePoints 76 = .ok (.iload 9, 2) := by decide +kernel
theorem dL_arePoints_78 : decode cL_arePoints 78 = .ok (.iaload, 1) := by decide +kernel
theorem dL_arePoints_79 : decode cL_arePoints 79 = .ok (.if_icmp .ne 49, 3) := by decide +kernel
theorem dL_arePoints_82 : decode cL_arePoints 82 = .ok (.aload_n 0, 1) := by decide +kernel
theorem dL_arePoints_83 : decode cL_arePoints 83 = .ok (.iload 9, 2) := by decide +kernel
theorem dL_arePoints_85 : decode cL_arePoints 85 = .ok (.iconst 0, 1) := by decide +kernel
theorem dL_arePoints_86 : decode cL_arePoints 86 = .ok (.invokevirtual 44, 3) := by decide +kernel
theorem dL_arePoints_89 : decode cL_arePoints 89 = .ok (.aload_n 3, 1) := by decide +kernel
theorem dL_arePoints_90 : decode cL_arePoints 90 = .ok (.iload 9, 2) := by decide +kernel
theorem dL_arePoints_92 : decode cL_arePoints 92 = .ok (.iaload, 1) := by decide +kernel
theorem dL_arePoints_93 : decode cL_arePoints 93 = .ok (.if_icmp .ne 35, 3) := by decide +kernel
theorem dL_arePoints_96 : decode cL_arePoints 96 = .ok (.aload_n 0, 1) := by decide +kernel
theorem dL_arePoints_97 : decode cL_arePoints 97 = .ok (.iload 9, 2) := by decide +kernel
theorem dL_arePoints_99 : decode cL_arePoints 99 = .ok (.iconst 1, 1) := by decide +kernel
theorem dL_arePoints_100 : decode cL_arePoints 100 = .ok (.invokevirtual 44, 3) := by decide +kernel
theorem dL_arePoints_103 : decode cL_arePoints 103 = .ok (.aload_n 3, 1) := by decide +kernel
theorem dL_arePoints_104 : decode cL_arePoints 104 = .ok (.iload 9, 2) := by decide +kernel
theorem dL_arePoints_106 : decode cL_arePoints 106 = .ok (.iaload, 1) := by decide +kernel
theorem dL_arePoints_107 : decode cL_arePoints 107 = .ok (.aload 4, 2) := by decide +kernel
theorem dL_arePoints_109 : decode cL_arePoints 109 = .ok (.iload 9, 2) := by decide +kernel
theorem dL_arePoints_111 : decode cL_arePoints 111 = .ok (.iaload, 1) := by decide +kernel
theorem dL_arePoints_112 : decode cL_arePoints 112 = .ok (.isub, 1) := by decide +kernel
theorem dL_arePoints_113 : decode cL_arePoints 113 = .ok (.if_icmp .ne 15, 3) := by decide +kernel
theorem dL_arePoints_116 : decode cL_arePoints 116 = .ok (.aload_n 0, 1) := by decide +kernel
theorem dL_arePoints_117 : decode cL_arePoints 117 = .ok (.iload 9, 2) := by decide +kernel
theorem dL_arePoints_119 : decode cL_arePoints 119 = .ok (.iconst 2, 1) := by decide +kernel
theorem dL_arePoints_120 : decode cL_arePoints 120 = .ok (.invokevirtual 44, 3) := by decide +kernel
theorem dL_arePoints_123 : decode cL_arePoints 123 = .ok (.iload 10, 2) := by decide +kernel
theorem dL_arePoints_125 : decode cL_arePoints 125 = .ok (.if_icmp .eq 5, 3) := by decide +kernel
theorem dL_arePoints_128 : decode cL_arePoints 128 = .ok (.iconst 0, 1) := by decide +kernel
theorem dL_arePoints_129 : decode cL_arePoints 129 = .ok (.ireturn, 1) := by decide +kernel
theorem dL_arePoints_130 : decode cL_arePoints 130 = .ok (.aload 4, 2) := by decide +kernel
theorem dL_arePoints_132 : decode cL_arePoints 132 = .ok (.iload 9, 2) := by decide +kernel
theorem dL_arePoints_134 : decode cL_arePoints 134 = .ok (.iaload, 1) := by decide +kernel
theorem dL_arePoints_135 : decode cL_arePoints 135 = .ok (.iload 5, 2) := by decide +kernel
theorem dL_arePoints_137 : decode cL_arePoints 137 = .ok (.if_icmp .le 11, 3) := by decide +kernel
theorem dL_arePoints_140 : decode cL_arePoints 140 = .ok (.aload 4, 2) := by decide +kernel
theorem dL_arePoints_142 : decode cL_arePoints 142 = .ok (.iload 9, 2) := by decide +kernel
theorem dL_arePoints_144 : decode cL_arePoints 144 = .ok (.iaload, 1) := by decide +kernel
theorem dL_arePoints_145 : decode cL_arePoints 145 = .ok (.goto 5, 3) := by decide +kernel
theorem dL_arePoints_148 : decode cL_arePoints 148 = .ok (.iload 5, 2) := by decide +kernel
theorem dL_arePoints_150 : decode cL_arePoints 150 = .ok (.istore 5, 2) := by decide +kernel
theorem dL_arePoints_152 : decode cL_arePoints 152 = .ok (.aload 4, 2) := by decide +kernel
theorem dL_arePoints_154 : decode cL_arePoints 154 = .ok (.iload 9, 2) := by decide +kernel
theorem dL_arePoints_156 : decode cL_arePoints 156 = .ok (.iaload, 1) := by decide +kernel
theorem dL_arePoints_157 : decode cL_arePoints 157 = .ok (.iload 6, 2) := by decide +kernel
theorem dL_arePoints_159 : decode cL_arePoints 159 = .ok (.if_icmp .ge 11, 3) := by decide +kernel
theorem dL_arePoints_162 : decode cL_arePoints 162 = .ok (.aload 4, 2) := by decide +kernel
theorem dL_arePoints_164 : decode cL_arePoints 164 = .ok (.iload 9, 2) := by decide +kernel
theorem dL_arePoints_166 : decode cL_arePoints 166 = .ok (.iaload, 1) := by decide +kernel
theorem dL_arePoints_167 : decode cL_arePoints 167 = .ok (.goto 5, 3) := by decide +kernel
theorem dL_arePoints_170 : decode cL_arePoints 170 = .ok (.iload 6, 2) := by decide +kernel
theorem dL_arePoints_172 : decode cL_arePoints 172 = .ok (.istore 6, 2) := by decide +kernel
theorem dL_arePoints_174 : decode cL_arePoints 174 = .ok (.aload_n 3, 1) := by decide +kernel
theorem dL_arePoints_175 : decode cL_arePoints 175 = .ok (.iload 9, 2) := by decide +kernel
theorem dL_arePoints_177 : decode cL_arePoints 177 = .ok (.iaload, 1) := by decide +kernel
theorem dL_arePoints_178 : decode cL_arePoints 178 = .ok (.aload 4, 2) := by decide +kernel
theorem dL_arePoints_180 : decode cL_arePoints 180 = .ok (.iload 9, 2) := by decide +kernel
theorem dL_arePoints_182 : decode cL_arePoints 182 = .ok (.iaload, 1) := by decide +kernel
theorem dL_arePoints_183 : decode cL_arePoints 183 = .ok (.isub, 1) := by decide +kernel
theorem dL_arePoints_184 : decode cL_arePoints 184 = .ok (.invokestatic 78, 3) := by decide +kernel
theorem dL_arePoints_187 : decode cL_arePoints 187 = .ok (.iload 7, 2) := by decide +kernel
theorem dL_arePoints_189 : decode cL_arePoints 189 = .ok (.if_icmp .le 19, 3) := by decide +kernel
theorem dL_arePoints_192 : decode cL_arePoints 192 = .ok (.aload_n 3, 1) := by decide +kernel
theorem dL_arePoints_193 : decode cL_arePoints 193 = .ok (.iload 9, 2) := by decide +kernel
theorem dL_arePoints_195 : decode cL_arePoints 195 = .ok (.iaload, 1) := by decide +kernel
theorem dL_arePoints_196 : decode cL_arePoints 196 = .ok (.aload 4, 2) := by decide +kernel
theorem dL_arePoints_198 : decode cL_arePoints 198 = .ok (.iload 9, 2) := by decide +kernel
theorem dL_arePoints_200 : decode cL_arePoints 200 = .ok (.iaload, 1) := by decide +kernel
theorem dL_arePoints_201 : decode cL_arePoints 201 = .ok (.isub, 1) := by decide +kernel
theorem dL_arePoints_202 : decode cL_arePoints 202 = .ok (.invokestatic 78, 3) := by decide +kernel
theorem dL_arePoints_205 : decode cL_arePoints 205 = .ok (.goto 5, 3) := by decide +kernel
theorem dL_arePoints_208 : decode cL_arePoints 208 = .ok (.iload 7, 2) := by decide +kernel
theorem dL_arePoints_210 : decode cL_arePoints 210 = .ok (.istore 7, 2) := by decide +kernel
theorem dL_arePoints_212 : decode cL_arePoints 212 = .ok (.iload 10, 2) := by decide +kernel
theorem dL_arePoints_214 : decode cL_arePoints 214 = .ok (.invokestatic 78, 3) := by decide +kernel
theorem dL_arePoints_217 : decode cL_arePoints 217 = .ok (.iload 8, 2) := by decide +kernel
theorem dL_arePoints_219 : decode cL_arePoints 219 = .ok (.if_icmp .le 11, 3) := by decide +kernel
theorem dL_arePoints_222 : decode cL_arePoints 222 = .ok (.iload 10, 2) := by decide +kernel
theorem dL_arePoints_224 : decode cL_arePoints 224 = .ok (.invokestatic 78, 3) := by decide +kernel
theorem dL_arePoints_227 : decode cL_arePoints 227 = .ok (.goto 5, 3) := by decide +kernel
theorem dL_arePoints_230 : decode cL_arePoints 230 = .ok (.iload 8, 2) := by decide +kernel
theorem dL_arePoints_232 : decode cL_arePoints 232 = .ok (.istore 8, 2) := by decide +kernel
theorem dL_arePoints_234 : decode cL_arePoints 234 = .ok (.iinc 9 1, 3) := by decide +kernel
theorem dL_arePoints_237 : decode cL_arePoints 237 = .ok (.goto (-218), 3) := by decide +kernel
theorem dL_arePoints_240 : decode cL_arePoints 240 = .ok (.iload 5, 2) := by decide +kernel
theorem dL_arePoints_242 : decode cL_arePoints 242 = .ok (.invokestatic 78, 3) := by decide +kernel
theorem dL_arePoints_245 : decode cL_arePoints 245 = .ok (.iload 6, 2) := by decide +kernel
theorem dL_arePoints_247 : decode cL_arePoints 247 = .ok (.invokestatic 78, 3) := by decide +kernel
theorem dL_arePoints_250 : decode cL_arePoints 250 = .ok (.if_icmp .le 11, 3) := by decide +kernel
theorem dL_arePoints_253 : decode cL_arePoints 253 = .ok (.iload 5, 2) := by decide +kernel
theorem dL_arePoints_255 : decode cL_arePoints 255 = .ok (.invokestatic 78, 3) := by decide +kernel
theorem dL_arePoints_258 : decode cL_arePoints 258 = .ok (.goto 8, 3) := by decide +kernel
theorem dL_arePoints_261 : decode cL_arePoints 261 = .ok (.iload 6, 2) := by decide +kernel
theorem dL_arePoints_263 : decode cL_arePoints 263 = .ok (.invokestatic 78, 3) := by decide +kernel
theorem dL_arePoints_266 : decode cL_arePoints 266 = .ok (.istore 9, 2) := by decide +kernel
theorem dL_arePoints_268 : decode cL_arePoints 268 = .ok (.bipush 8, 2) := by decide +kernel
theorem dL_arePoints_270 : decode cL_arePoints 270 = .ok (.newarray .int, 2) := by decide +kernel
theorem dL_arePoints_272 : decode cL_arePoints 272 = .ok (.astore 10, 2) := by decide +kernel
theorem dL_arePoints_274 : decode cL_arePoints 274 = .ok (.iconst 0, 1) := by decide +kernel
theorem dL_arePoints_275 : decode cL_arePoints 275 = .ok (.istore 11, 2) := by decide +kernel
theorem dL_arePoints_277 : decode cL_arePoints 277 = .ok (.iload 11, 2) := by decide +kernel
theorem dL_arePoints_279 : decode cL_arePoints 279 = .ok (.bipush 8, 2) := by decide +kernel
theorem dL_arePoints_281 : decode cL_arePoints 281 = .ok (.if_icmp .ge 24, 3) := by decide +kernel
theorem dL_arePoints_284 : decode cL_arePoints 284 = .ok (.aload 10, 2) := by decide +kernel
theorem dL_arePoints_286 : decode cL_arePoints 286 = .ok (.iload 11, 2) := by decide +kernel
theorem dL_arePoints_288 : decode cL_arePoints 288 = .ok (.aload_n 3, 1) := by decide +kernel
theorem dL_arePoints_289 : decode cL_arePoints 289 = .ok (.iload 11, 2) := by decide +kernel
theorem dL_arePoints_291 : decode cL_arePoints 291 = .ok (.iaload, 1) := by decide +kernel
theorem dL_arePoints_292 : decode cL_arePoints 292 = .ok (.aload 4, 2) := by decide +kernel
theorem dL_arePoints_294 : decode cL_arePoints 294 = .ok (.iload 11, 2) := by decide +kernel
theorem dL_arePoints_296 : decode cL_arePoints 296 = .ok (.iaload, 1) := by decide +kernel
theorem dL_arePoints_297 : decode cL_arePoints 297 = .ok (.isub, 1) := by decide +kernel
theorem dL_arePoints_298 : decode cL_arePoints 298 = .ok (.iastore, 1) := by decide +kernel
theorem dL_arePoints_299 : decode cL_arePoints 299 = .ok (.iinc 11 1, 3) := by decide +kernel
theorem dL_arePoints_302 : decode cL_arePoints 302 = .ok (.goto (-25), 3) := by decide +kernel
theorem dL_arePoints_305 : decode cL_arePoints 305 = .ok (.aload 10, 2) := by decide +kernel
theorem dL_arePoints_307 : decode cL_arePoints 307 = .ok (.invokestatic 53, 3) := by decide +kernel
theorem dL_arePoints_310 : decode cL_arePoints 310 = .ok (.iconst (-1), 1) := by decide +kernel
theorem dL_arePoints_311 : decode cL_arePoints 311 = .ok (.istore 11, 2) := by decide +kernel
theorem dL_arePoints_313 : decode cL_arePoints 313 = .ok (.iconst 0, 1) := by decide +kernel
theorem dL_arePoints_314 : decode cL_arePoints 314 = .ok (.istore 12, 2) := by decide +kernel
theorem dL_arePoints_316 : decode cL_arePoints 316 = .ok (.iload 12, 2) := by decide +kernel
theorem dL_arePoints_318 : decode cL_arePoints 318 = .ok (.bipush 8, 2) := by decide +kernel
theorem dL_arePoints_320 : decode cL_arePoints 320 = .ok (.if_icmp .ge 26, 3) := by decide +kernel
theorem dL_arePoints_323 : decode cL_arePoints 323 = .ok (.aload 10, 2) := by decide +kernel
theorem dL_arePoints_325 : decode cL_arePoints 325 = .ok (.iload 12, 2) := by decide +kernel
theorem dL_arePoints_327 : decode cL_arePoints 327 = .ok (.iaload, 1) := by decide +kernel
theorem dL_arePoints_328 : decode cL_arePoints 328 = .ok (.ifCond .eq 8, 3) := by decide +kernel
theorem dL_arePoints_331 : decode cL_arePoints 331 = .ok (.iload 12, 2) := by decide +kernel
theorem dL_arePoints_333 : decode cL_arePoints 333 = .ok (.goto 5, 3) := by decide +kernel
theorem dL_arePoints_336 : decode cL_arePoints 336 = .ok (.iload 11, 2) := by decide +kernel
theorem dL_arePoints_338 : decode cL_arePoints 338 = .ok (.istore 11, 2) := by decide +kernel
theorem dL_arePoints_340 : decode cL_arePoints 340 = .ok (.iinc 12 1, 3) := by decide +kernel
theorem dL_arePoints_343 : decode cL_arePoints 343 = .ok (.goto (-27), 3) := by decide +kernel
theorem dL_arePoints_346 : decode cL_arePoints 346 = .ok (.aload_n 0, 1) := by decide +kernel
theorem dL_arePoints_347 : decode cL_arePoints 347 = .ok (.iconst 2, 1) := by decide +kernel
theorem dL_arePoints_348 : decode cL_arePoints 348 = .ok (.invokevirtual 67, 3) := by decide +kernel
theorem dL_arePoints_351 : decode cL_arePoints 351 = .ok (.iload 5, 2) := by decide +kernel
theorem dL_arePoints_353 : decode cL_arePoints 353 = .ok (.if_icmp .ne 88, 3) := by decide +kernel
theorem dL_arePoints_356 : decode cL_arePoints 356 = .ok (.aload_n 0, 1) := by decide +kernel
theorem dL_arePoints_357 : decode cL_arePoints 357 = .ok (.iconst 3, 1) := by decide +kernel
theorem dL_arePoints_358 : decode cL_arePoints 358 = .ok (.invokevirtual 67, 3) := by decide +kernel
theorem dL_arePoints_361 : decode cL_arePoints 361 = .ok (.iload 6, 2) := by decide +kernel
theorem dL_arePoints_363 : decode cL_arePoints 363 = .ok (.if_icmp .ne 78, 3) := by decide +kernel
theorem dL_arePoints_366 : decode cL_arePoints 366 = .ok (.aload_n 0, 1) := by decide +kernel
theorem dL_arePoints_367 : decode cL_arePoints 367 = .ok (.iconst 4, 1) := by decide +kernel
theorem dL_arePoints_368 : decode cL_arePoints 368 = .ok (.invokevirtual 67, 3) := by decide +kernel
theorem dL_arePoints_371 : decode cL_arePoints 371 = .ok (.iload 7, 2) := by decide +kernel
theorem dL_arePoints_373 : decode cL_arePoints 373 = .ok (.if_icmp .ne 68, 3) := by decide +kernel
theorem dL_arePoints_376 : decode cL_arePoints 376 = .ok (.aload_n 0, 1) := by decide +kernel
theorem dL_arePoints_377 : decode cL_arePoints 377 = .ok (.iconst 5, 1) := by decide +kernel
theorem dL_arePoints_378 : decode cL_arePoints 378 = .ok (.invokevirtual 67, 3) := by decide +kernel
theorem dL_arePoints_381 : decode cL_arePoints 381 = .ok (.iload 8, 2) := by decide +kernel
theorem dL_arePoints_383 : decode cL_arePoints 383 = .ok (.if_icmp .ne 58, 3) := by decide +kernel
theorem dL_arePoints_386 : decode cL_arePoints 386 = .ok (.aload_n 0, 1) := by decide +kernel
theorem dL_arePoints_387 : decode cL_arePoints 387 = .ok (.bipush 6, 2) := by decide +kernel
theorem dL_arePoints_389 : decode cL_arePoints 389 = .ok (.invokevirtual 67, 3) := by decide +kernel
theorem dL_arePoints_392 : decode cL_arePoints 392 = .ok (.iload 9, 2) := by decide +kernel
theorem dL_arePoints_394 : decode cL_arePoints 394 = .ok (.aload_n 2, 1) := by decide +kernel
theorem dL_arePoints_395 : decode cL_arePoints 395 = .ok (.iconst 0, 1) := by decide +kernel
theorem dL_arePoints_396 : decode cL_arePoints 396 = .ok (.iaload, 1) := by decide +kernel
theorem dL_arePoints_397 : decode cL_arePoints 397 = .ok (.iconst 1, 1) := by decide +kernel
theorem dL_arePoints_398 : decode cL_arePoints 398 = .ok (.if_icmp .ne 7, 3) := by decide +kernel
theorem dL_arePoints_401 : decode cL_arePoints 401 = .ok (.iconst 0, 1) := by decide +kernel
theorem dL_arePoints_402 : decode cL_arePoints 402 = .ok (.goto 9, 3) := by decide +kernel
theorem dL_arePoints_405 : decode cL_arePoints 405 = .ok (.aload_n 1, 1) := by decide +kernel
theorem dL_arePoints_406 : decode cL_arePoints 406 = .ok (.iconst 0, 1) := by decide +kernel
theorem dL_arePoints_407 : decode cL_arePoints 407 = .ok (.iaload, 1) := by decide +kernel
theorem dL_arePoints_408 : decode cL_arePoints 408 = .ok (.invokestatic 78, 3) := by decide +kernel
theorem dL_arePoints_411 : decode cL_arePoints 411 = .ok (.isub, 1) := by decide +kernel
theorem dL_arePoints_412 : decode cL_arePoints 412 = .ok (.if_icmp .ne 29, 3) := by decide +kernel
theorem dL_arePoints_415 : decode cL_arePoints 415 = .ok (.aload_n 0, 1) := by decide +kernel
theorem dL_arePoints_416 : decode cL_arePoints 416 = .ok (.invokevirtual 81, 3) := by decide +kernel
theorem dL_arePoints_419 : decode cL_arePoints 419 = .ok (.aload 10, 2) := by decide +kernel
theorem dL_arePoints_421 : decode cL_arePoints 421 = .ok (.invokestatic 70, 3) := by decide +kernel
theorem dL_arePoints_424 : decode cL_arePoints 424 = .ok (.iconst 1, 1) := by decide +kernel
theorem dL_arePoints_425 : decode cL_arePoints 425 = .ok (.if_icmp .ne 8, 3) := by decide +kernel
theorem dL_arePoints_428 : decode cL_arePoints 428 = .ok (.iload 11, 2) := by decide +kernel
theorem dL_arePoints_430 : decode cL_arePoints 430 = .ok (.goto 4, 3) := by decide +kernel
theorem dL_arePoints_433 : decode cL_arePoints 433 = .ok (.iconst (-1), 1) := by decide +kernel
theorem dL_arePoints_434 : decode cL_arePoints 434 = .ok (.if_icmp .ne 7, 3) := by decide +kernel
theorem dL_arePoints_437 : decode cL_arePoints 437 = .ok (.iconst 1, 1) := by decide +kernel
theorem dL_arePoints_438 : decode cL_arePoints 438 = .ok (.goto 4, 3) := by decide +kernel
theorem dL_arePoints_441 : decode cL_arePoints 441 = .ok (.iconst 0, 1) := by decide +kernel
theorem dL_arePoints_442 : decode cL_arePoints 442 = .ok (.ireturn, 1) := by decide +kernel

theorem dX0_init_0 : decode cX0_init 0 = .ok (.aload_n 0, 1) := by decide +kernel
theorem dX0_init_1 : decode cX0_init 1 = .ok (.invokespecial 3, 3) := by decide +kernel
theorem dX0_init_4 : decode cX0_init 4 = .ok (.aload_n 0, 1) := by decide +kernel
theorem dX0_init_5 : decode cX0_init 5 = .ok (.bipush 8, 2) := by decide +kernel
theorem dX0_init_7 : decode cX0_init 7 = .ok (.newarray .int, 2) := by decide +kernel
theorem dX0_init_9 : decode cX0_init 9 = .ok (.putfield 9, 3) := by decide +kernel
theorem dX0_init_12 : decode cX0_init 12 = .ok (.aload_n 0, 1) := by decide +kernel
theorem dX0_init_13 : decode cX0_init 13 = .ok (.bipush 8, 2) := by decide +kernel
theorem dX0_init_15 : decode cX0_init 15 = .ok (.newarray .int, 2) := by decide +kernel
theorem dX0_init_17 : decode cX0_init 17 = .ok (.putfield 15, 3) := by decide +kernel
theorem dX0_init_20 : decode cX0_init 20 = .ok (.aload_n 0, 1) := by decide +kernel
theorem dX0_init_21 : decode cX0_init 21 = .ok (.iconst 0, 1) := by decide +kernel
theorem dX0_init_22 : decode cX0_init 22 = .ok (.putfield 18, 3) := by decide +kernel
theorem dX0_init_25 : decode cX0_init 25 = .ok (.aload_n 0, 1) := by decide +kernel
theorem dX0_init_26 : decode cX0_init 26 = .ok (.iconst 0, 1) := by decide +kernel
theorem dX0_init_27 : decode cX0_init 27 = .ok (.putfield 22, 3) := by decide +kernel
theorem dX0_init_30 : decode cX0_init 30 = .ok (.return_, 1) := by decide +kernel
theorem dX0_takeFrom_0 : decode cX0_takeFrom 0 = .ok (.aload_n 1, 1) := by decide +kernel
theorem dX0_takeFrom_1 : decode cX0_takeFrom 1 = .ok (.getfield 9, 3) := by decide +kernel
theorem dX0_takeFrom_4 : decode cX0_takeFrom 4 = .ok (.iconst 0, 1) := by decide +kernel
theorem dX0_takeFrom_5 : decode cX0_takeFrom 5 = .ok (.aload_n 0, 1) := by decide +kernel
theorem dX0_takeFrom_6 : decode cX0_takeFrom 6 = .ok (.getfield 9, 3) := by decide +kernel
theorem dX0_takeFrom_9 : decode cX0_takeFrom 9 = .ok (.iconst 0, 1) := by decide +kernel
theorem dX0_takeFrom_10 : decode cX0_takeFrom 10 = .ok (.bipush 8, 2) := by decide +kernel
theorem dX0_takeFrom_12 : decode cX0_takeFrom 12 = .ok (.invokestatic 25, 3) := by decide +kernel
theorem dX0_takeFrom_15 : decode cX0_takeFrom 15 = .ok (.aload_n 1, 1) := by decide +kernel
theorem dX0_takeFrom_16 : decode cX0_takeFrom 16 = .ok (.getfield 15, 3) := by decide +kernel
theorem dX0_takeFrom_19 : decode cX0_takeFrom 19 = .ok (.iconst 0, 1) := by decide +kernel
theorem dX0_takeFrom_20 : decode cX0_takeFrom 20 = .ok (.aload_n 0, 1) := by decide +kernel
theorem dX0_takeFrom_21 : decode cX0_takeFrom 21 = .ok (.getfield 15, 3) := by decide +kernel
theorem dX0_takeFrom_24 : decode cX0_takeFrom 24 = .ok (.iconst 0, 1) := by decide +kernel
theorem dX0_takeFrom_25 : decode cX0_takeFrom 25 = .ok (.bipush 8, 2) := by decide +kernel
theorem dX0_takeFrom_27 : decode cX0_takeFrom 27 = .ok (.invokestatic 25, 3) := by decide +kernel
theorem dX0_takeFrom_30 : decode cX0_takeFrom 30 = .ok (.aload_n 0, 1) := by decide +kernel
theorem dX0_takeFrom_31 : decode cX0_takeFrom 31 = .ok (.aload_n 1, 1) := by decide +kernel
theorem dX0_takeFrom_32 : decode cX0_takeFrom 32 = .ok (.getfield 18, 3) := by decide +kernel
theorem dX0_takeFrom_35 : decode cX0_takeFrom 35 = .ok (.putfield 18, 3) := by decide +kernel
theorem dX0_takeFrom_38 : decode cX0_takeFrom 38 = .ok (.aload_n 0, 1) := by decide +kernel
theorem dX0_takeFrom_39 : decode cX0_takeFrom 39 = .ok (.aload_n 1, 1) := by decide +kernel
theorem dX0_takeFrom_40 : decode cX0_takeFrom 40 = .ok (.getfield 22, 3) := by decide +kernel
theorem dX0_takeFrom_43 : decode cX0_takeFrom 43 = .ok (.putfield 22, 3) := by decide +kernel
theorem dX0_takeFrom_46 : decode cX0_takeFrom 46 = .ok (.return_, 1) := by decide +kernel
theorem dX0_isLost_0 : decode cX0_isLost 0 = .ok (.aload_n 0, 1) := by decide +kernel
theorem dX0_isLost_1 : decode cX0_isLost 1 = .ok (.getfield 18, 3) := by decide +kernel
theorem dX0_isLost_4 : decode cX0_isLost 4 = .ok (.iload_n 1, 1) := by decide +kernel
theorem dX0_isLost_5 : decode cX0_isLost 5 = .ok (.ishr, 1) := by decide +kernel
theorem dX0_isLost_6 : decode cX0_isLost 6 = .ok (.iconst 1, 1) := by decide +kernel
theorem dX0_isLost_7 : decode cX0_isLost 7 = .ok (.iand, 1) := by decide +kernel
theorem dX0_isLost_8 : decode cX0_isLost 8 = .ok (.iconst 1, 1) := by decide +kernel
theorem dX0_isLost_9 : decode cX0_isLost 9 = .ok (.if_icmp .ne 7, 3) := by decide +kernel
theorem dX0_isLost_12 : decode cX0_isLost 12 = .ok (.iconst 1, 1) := by decide +kernel
theorem dX0_isLost_13 : decode cX0_isLost 13 = .ok (.goto 4, 3) := by decide +kernel
theorem dX0_isLost_16 : decode cX0_isLost 16 = .ok (.iconst 0, 1) := by decide +kernel
theorem dX0_isLost_17 : decode cX0_isLost 17 = .ok (.ireturn, 1) := by decide +kernel
set_option maxRecDepth 20000 in
theorem ggX0_drawnAmplitude_X0_isLost : GoodIn wsX0_drawnAmplitude wsX0_isLost := goodIn_r _ [6, 7, 8, 9, 10, 11] (by decide +kernel) (by decide +kernel)
set_option maxRecDepth 20000 in
theorem gX0_drawnAmplitude_X0_isLost : GoodIn wsX0_drawnAmplitude (wsV RX0 31 RX0 yX0_isLost wsX0_isLost) := goodIn_app (goodIn_of _ (by decide +kernel)) ggX0_drawnAmplitude_X0_isLost
theorem dX0_drawnAmplitude_0 : decode cX0_drawnAmplitude 0 = .ok (.aload_n 0, 1) := by decide +kernel
theorem dX0_drawnAmplitude_1 : decode cX0_drawnAmplitude 1 = .ok (.iload_n 1, 1) := by decide +kernel
theorem dX0_drawnAmplitude_2 : decode cX0_drawnAmplitude 2 = .ok (.invokevirtual 31, 3) := by decide +kernel
theorem dX0_drawnAmplitude_5 : decode cX0_drawnAmplitude 5 = .ok (.ifCond .eq 7, 3) := by decide +kernel
theorem dX0_drawnAmplitude_8 : decode cX0_drawnAmplitude 8 = .ok (.iconst 0, 1) := by decide +kernel
theorem dX0_drawnAmplitude_9 : decode cX0_drawnAmplitude 9 = .ok (.goto 9, 3) := by decide +kernel
theorem dX0_drawnAmplitude_12 : decode cX0_drawnAmplitude 12 = .ok (.aload_n 0, 1) := by decide +kernel
theorem dX0_drawnAmplitude_13 : decode cX0_drawnAmplitude 13 = .ok (.getfield 9, 3) := by decide +kernel
theorem dX0_drawnAmplitude_16 : decode cX0_drawnAmplitude 16 = .ok (.iload_n 1, 1) := by decide +kernel
theorem dX0_drawnAmplitude_17 : decode cX0_drawnAmplitude 17 = .ok (.iaload, 1) := by decide +kernel
theorem dX0_drawnAmplitude_18 : decode cX0_drawnAmplitude 18 = .ok (.ireturn, 1) := by decide +kernel
theorem dX0_drawingWheels_0 : decode cX0_drawingWheels 0 = .ok (.iconst 0, 1) := by decide +kernel
theorem dX0_drawingWheels_1 : decode cX0_drawingWheels 1 = .ok (.istore_n 1, 1) := by decide +kernel
theorem dX0_drawingWheels_2 : decode cX0_drawingWheels 2 = .ok (.iconst 0, 1) := by decide +kernel
theorem dX0_drawingWheels_3 : decode cX0_drawingWheels 3 = .ok (.istore_n 2, 1) := by decide +kernel
theorem dX0_drawingWheels_4 : decode cX0_drawingWheels 4 = .ok (.iload_n 2, 1) := by decide +kernel
theorem dX0_drawingWheels_5 : decode cX0_drawingWheels 5 = .ok (.bipush 8, 2) := by decide +kernel
theorem dX0_drawingWheels_7 : decode cX0_drawingWheels 7 = .ok (.if_icmp .ge 26, 3) := by decide +kernel
theorem dX0_drawingWheels_10 : decode cX0_drawingWheels 10 = .ok (.iload_n 1, 1) := by decide +kernel
theorem dX0_drawingWheels_11 : decode cX0_drawingWheels 11 = .ok (.aload_n 0, 1) := by decide +kernel
theorem dX0_drawingWheels_12 : decode cX0_drawingWheels 12 = .ok (.getfield 9, 3) := by decide +kernel
theorem dX0_drawingWheels_15 : decode cX0_drawingWheels 15 = .ok (.iload_n 2, 1) := by decide +kernel
theorem dX0_drawingWheels_16 : decode cX0_drawingWheels 16 = .ok (.iaload, 1) := by decide +kernel
theorem dX0_drawingWheels_17 : decode cX0_drawingWheels 17 = .ok (.ifCond .eq 7, 3) := by decide +kernel
theorem dX0_drawingWheels_20 : decode cX0_drawingWheels 20 = .ok (.iconst 1, 1) := by decide +kernel
theorem dX0_drawingWheels_21 : decode cX0_drawingWheels 21 = .ok (.goto 4, 3) := by decide +kernel
theorem dX0_drawingWheels_24 : decode cX0_drawingWheels 24 = .ok (.iconst 0, 1) := by decide +kernel
theorem dX0_drawingWheels_25 : decode cX0_drawingWheels 25 = .ok (.iadd, 1) := by decide +kernel
theorem dX0_drawingWheels_26 : decode cX0_drawingWheels 26 = .ok (.istore_n 1, 1) := by decide +kernel
theorem dX0_drawingWheels_27 : decode cX0_drawingWheels 27 = .ok (.iinc 2 1, 3) := by decide +kernel
theorem dX0_drawingWheels_30 : decode cX0_drawingWheels 30 = .ok (.goto (-26), 3) := by decide +kernel
theorem dX0_drawingWheels_33 : decode cX0_drawingWheels 33 = .ok (.iload_n 1, 1) := by decide +kernel
theorem dX0_drawingWheels_34 : decode cX0_drawingWheels 34 = .ok (.ireturn, 1) := by decide +kernel
set_option maxRecDepth 20000 in
theorem ggX0_traceAt_X0_drawnAmplitude : GoodIn wsX0_traceAt wsX0_drawnAmplitude := goodIn_r _ [5, 6, 7, 8, 9, 4, 10, 11, 22, 23, 24, 25] (by decide +kernel) (by decide +kernel)
set_option maxRecDepth 20000 in
theorem gX0_traceAt_X0_drawnAmplitude : GoodIn wsX0_traceAt (wsV RX0 35 RX0 yX0_drawnAmplitude wsX0_drawnAmplitude) := goodIn_app (goodIn_of _ (by decide +kernel)) ggX0_traceAt_X0_drawnAmplitude
set_option maxRecDepth 20000 in
theorem ggX0_traceAt_X3_wave : GoodIn wsX0_traceAt wsX3_wave := goodIn_r _ [14, 15, 16, 17, 18, 19, 20, 21] (by decide +kernel) (by decide +kernel)
set_option maxRecDepth 20000 in
theorem gX0_traceAt_X3_wave_n39 : GoodIn wsX0_traceAt (wsX3_wave) := ggX0_traceAt_X3_wave
theorem dX0_traceAt_0 : decode cX0_traceAt 0 = .ok (.iconst 0, 1) := by decide +kernel
theorem dX0_traceAt_1 : decode cX0_traceAt 1 = .ok (.istore_n 2, 1) := by decide +kernel
theorem dX0_traceAt_2 : decode cX0_traceAt 2 = .ok (.iconst 0, 1) := by decide +kernel
theorem dX0_traceAt_3 : decode cX0_traceAt 3 = .ok (.istore_n 3, 1) := by decide +kernel
theorem dX0_traceAt_4 : decode cX0_traceAt 4 = .ok (.iload_n 3, 1) := by decide +kernel
theorem dX0_traceAt_5 : decode cX0_traceAt 5 = .ok (.bipush 8, 2) := by decide +kernel
theorem dX0_traceAt_7 : decode cX0_traceAt 7 = .ok (.if_icmp .ge 23, 3) := by decide +kernel
theorem dX0_traceAt_10 : decode cX0_traceAt 10 = .ok (.iload_n 2, 1) := by decide +kernel
theorem dX0_traceAt_11 : decode cX0_traceAt 11 = .ok (.aload_n 0, 1) := by decide +kernel
theorem dX0_traceAt_12 : decode cX0_traceAt 12 = .ok (.iload_n 3, 1) := by decide +kernel
theorem dX0_traceAt_13 : decode cX0_traceAt 13 = .ok (.invokevirtual 35, 3) := by decide +kernel
theorem dX0_traceAt_16 : decode cX0_traceAt 16 = .ok (.iload_n 3, 1) := by decide +kernel
theorem dX0_traceAt_17 : decode cX0_traceAt 17 = .ok (.iload_n 1, 1) := by decide +kernel
theorem dX0_traceAt_18 : decode cX0_traceAt 18 = .ok (.invokestatic 39, 3) := by decide +kernel
theorem dX0_traceAt_21 : decode cX0_traceAt 21 = .ok (.imul, 1) := by decide +kernel
theorem dX0_traceAt_22 : decode cX0_traceAt 22 = .ok (.iadd, 1) := by decide +kernel
theorem dX0_traceAt_23 : decode cX0_traceAt 23 = .ok (.istore_n 2, 1) := by decide +kernel
theorem dX0_traceAt_24 : decode cX0_traceAt 24 = .ok (.iinc 3 1, 3) := by decide +kernel
theorem dX0_traceAt_27 : decode cX0_traceAt 27 = .ok (.goto (-23), 3) := by decide +kernel
theorem dX0_traceAt_30 : decode cX0_traceAt 30 = .ok (.iload_n 2, 1) := by decide +kernel
theorem dX0_traceAt_31 : decode cX0_traceAt 31 = .ok (.ireturn, 1) := by decide +kernel
set_option maxRecDepth 20000 in
theorem ggX0_differenceAt_X0_traceAt : GoodIn wsX0_differenceAt wsX0_traceAt := goodIn_r _ [6, 7, 8, 9, 5, 10, 11, 12, 13, 14, 15, 16, 17, 18, 19, 20, 21, 22, 23, 24, 25, 26, 27, 28, 29, 30] (by decide +kernel) (by decide +kernel)
set_option maxRecDepth 20000 in
theorem gX0_differenceAt_X0_traceAt : GoodIn wsX0_differenceAt (wsV RX0 43 RX0 yX0_traceAt wsX0_traceAt) := goodIn_app (goodIn_of _ (by decide +kernel)) ggX0_differenceAt_X0_traceAt
theorem dX0_differenceAt_0 : decode cX0_differenceAt 0 = .ok (.aload_n 0, 1) := by decide +kernel
theorem dX0_differenceAt_1 : decode cX0_differenceAt 1 = .ok (.getfield 15, 3) := by decide +kernel
theorem dX0_differenceAt_4 : decode cX0_differenceAt 4 = .ok (.iload_n 1, 1) := by decide +kernel
theorem dX0_differenceAt_5 : decode cX0_differenceAt 5 = .ok (.iaload, 1) := by decide +kernel
theorem dX0_differenceAt_6 : decode cX0_differenceAt 6 = .ok (.aload_n 0, 1) := by decide +kernel
theorem dX0_differenceAt_7 : decode cX0_differenceAt 7 = .ok (.iload_n 1, 1) := by decide +kernel
theorem dX0_differenceAt_8 : decode cX0_differenceAt 8 = .ok (.invokevirtual 43, 3) := by decide +kernel
theorem dX0_differenceAt_11 : decode cX0_differenceAt 11 = .ok (.isub, 1) := by decide +kernel
theorem dX0_differenceAt_12 : decode cX0_differenceAt 12 = .ok (.ireturn, 1) := by decide +kernel
set_option maxRecDepth 20000 in
theorem ggX0_jumpAt_X0_traceAt : GoodIn wsX0_jumpAt wsX0_traceAt := goodIn_r _ [5, 6, 7, 8, 4, 9, 10, 11, 12, 13, 14, 15, 16, 17, 18, 19, 20, 21, 22, 23, 24, 25, 26, 27, 28, 29] (by decide +kernel) (by decide +kernel)
set_option maxRecDepth 20000 in
theorem gX0_jumpAt_X0_traceAt : GoodIn wsX0_jumpAt (wsV RX0 43 RX0 yX0_traceAt wsX0_traceAt) := goodIn_app (goodIn_of _ (by decide +kernel)) ggX0_jumpAt_X0_traceAt
theorem dX0_jumpAt_0 : decode cX0_jumpAt 0 = .ok (.aload_n 0, 1) := by decide +kernel
theorem dX0_jumpAt_1 : decode cX0_jumpAt 1 = .ok (.iload_n 1, 1) := by decide +kernel
theorem dX0_jumpAt_2 : decode cX0_jumpAt 2 = .ok (.iconst 1, 1) := by decide +kernel
theorem dX0_jumpAt_3 : decode cX0_jumpAt 3 = .ok (.iadd, 1) := by decide +kernel
theorem dX0_jumpAt_4 : decode cX0_jumpAt 4 = .ok (.bipush 8, 2) := by decide +kernel
theorem dX0_jumpAt_6 : decode cX0_jumpAt 6 = .ok (.irem, 1) := by decide +kernel
theorem dX0_jumpAt_7 : decode cX0_jumpAt 7 = .ok (.invokevirtual 43, 3) := by decide +kernel
theorem dX0_jumpAt_10 : decode cX0_jumpAt 10 = .ok (.aload_n 0, 1) := by decide +kernel
theorem dX0_jumpAt_11 : decode cX0_jumpAt 11 = .ok (.iload_n 1, 1) := by decide +kernel
theorem dX0_jumpAt_12 : decode cX0_jumpAt 12 = .ok (.invokevirtual 43, 3) := by decide +kernel
theorem dX0_jumpAt_15 : decode cX0_jumpAt 15 = .ok (.isub, 1) := by decide +kernel
theorem dX0_jumpAt_16 : decode cX0_jumpAt 16 = .ok (.ireturn, 1) := by decide +kernel
set_option maxRecDepth 20000 in
theorem ggX0_patternAmplitude_X3_wave : GoodIn wsX0_patternAmplitude wsX3_wave := goodIn_r _ [4, 5, 6, 7, 8, 9, 10, 11] (by decide +kernel) (by decide +kernel)
set_option maxRecDepth 20000 in
theorem gX0_patternAmplitude_X3_wave_n39 : GoodIn wsX0_patternAmplitude (wsX3_wave) := ggX0_patternAmplitude_X3_wave
set_option maxRecDepth 20000 in
theorem ggX0_patternAmplitude_J9_floorDiv_7cf53 : GoodIn wsX0_patternAmplitude wsJ9_floorDiv_7cf53 := goodIn_r _ [15] (by decide +kernel) (by decide +kernel)
set_option maxRecDepth 20000 in
theorem gX0_patternAmplitude_J9_floorDiv_7cf53 : GoodIn wsX0_patternAmplitude (va_wsS RX0 46 yJ9_floorDiv_7cf53 wsJ9_floorDiv_7cf53) := goodIn_app (goodIn_of _ (by decide +kernel)) ggX0_patternAmplitude_J9_floorDiv_7cf53
theorem dX0_patternAmplitude_0 : decode cX0_patternAmplitude 0 = .ok (.iconst 0, 1) := by decide +kernel
theorem dX0_patternAmplitude_1 : decode cX0_patternAmplitude 1 = .ok (.istore_n 2, 1) := by decide +kernel
theorem dX0_patternAmplitude_2 : decode cX0_patternAmplitude 2 = .ok (.iconst 0, 1) := by decide +kernel
theorem dX0_patternAmplitude_3 : decode cX0_patternAmplitude 3 = .ok (.istore_n 3, 1) := by decide +kernel
theorem dX0_patternAmplitude_4 : decode cX0_patternAmplitude 4 = .ok (.iload_n 3, 1) := by decide +kernel
theorem dX0_patternAmplitude_5 : decode cX0_patternAmplitude 5 = .ok (.bipush 8, 2) := by decide +kernel
theorem dX0_patternAmplitude_7 : decode cX0_patternAmplitude 7 = .ok (.if_icmp .ge 24, 3) := by decide +kernel
theorem dX0_patternAmplitude_10 : decode cX0_patternAmplitude 10 = .ok (.iload_n 2, 1) := by decide +kernel
theorem dX0_patternAmplitude_11 : decode cX0_patternAmplitude 11 = .ok (.aload_n 0, 1) := by decide +kernel
theorem dX0_patternAmplitude_12 : decode cX0_patternAmplitude 12 = .ok (.getfield 15, 3) := by decide +kernel
theorem dX0_patternAmplitude_15 : decode cX0_patternAmplitude 15 = .ok (.iload_n 3, 1) := by decide +kernel
theorem dX0_patternAmplitude_16 : decode cX0_patternAmplitude 16 = .ok (.iaload, 1) := by decide +kernel
theorem dX0_patternAmplitude_17 : decode cX0_patternAmplitude 17 = .ok (.iload_n 1, 1) := by decide +kernel
theorem dX0_patternAmplitude_18 : decode cX0_patternAmplitude 18 = .ok (.iload_n 3, 1) := by decide +kernel
theorem dX0_patternAmplitude_19 : decode cX0_patternAmplitude 19 = .ok (.invokestatic 39, 3) := by decide +kernel
theorem dX0_patternAmplitude_22 : decode cX0_patternAmplitude 22 = .ok (.imul, 1) := by decide +kernel
theorem dX0_patternAmplitude_23 : decode cX0_patternAmplitude 23 = .ok (.iadd, 1) := by decide +kernel
theorem dX0_patternAmplitude_24 : decode cX0_patternAmplitude 24 = .ok (.istore_n 2, 1) := by decide +kernel
theorem dX0_patternAmplitude_25 : decode cX0_patternAmplitude 25 = .ok (.iinc 3 1, 3) := by decide +kernel
theorem dX0_patternAmplitude_28 : decode cX0_patternAmplitude 28 = .ok (.goto (-24), 3) := by decide +kernel
theorem dX0_patternAmplitude_31 : decode cX0_patternAmplitude 31 = .ok (.iload_n 2, 1) := by decide +kernel
theorem dX0_patternAmplitude_32 : decode cX0_patternAmplitude 32 = .ok (.bipush 8, 2) := by decide +kernel
theorem dX0_patternAmplitude_34 : decode cX0_patternAmplitude 34 = .ok (.invokestatic 46, 3) := by decide +kernel
theorem dX0_patternAmplitude_37 : decode cX0_patternAmplitude 37 = .ok (.ireturn, 1) := by decide +kernel
set_option maxRecDepth 20000 in
theorem ggX0_errorWithout_X0_drawnAmplitude : GoodIn wsX0_errorWithout wsX0_drawnAmplitude := goodIn_r _ [5, 6, 7, 8, 9, 4, 10, 11, 12, 13, 14, 15] (by decide +kernel) (by decide +kernel)
set_option maxRecDepth 20000 in
theorem gX0_errorWithout_X0_drawnAmplitude : GoodIn wsX0_errorWithout (wsV RX0 35 RX0 yX0_drawnAmplitude wsX0_drawnAmplitude) := goodIn_app (goodIn_of _ (by decide +kernel)) ggX0_errorWithout_X0_drawnAmplitude
theorem dX0_errorWithout_0 : decode cX0_errorWithout 0 = .ok (.bipush 8, 2) := by decide +kernel
theorem dX0_errorWithout_2 : decode cX0_errorWithout 2 = .ok (.aload_n 0, 1) := by decide +kernel
theorem dX0_errorWithout_3 : decode cX0_errorWithout 3 = .ok (.iload_n 1, 1) := by decide +kernel
theorem dX0_errorWithout_4 : decode cX0_errorWithout 4 = .ok (.invokevirtual 35, 3) := by decide +kernel
theorem dX0_errorWithout_7 : decode cX0_errorWithout 7 = .ok (.imul, 1) := by decide +kernel
theorem dX0_errorWithout_8 : decode cX0_errorWithout 8 = .ok (.aload_n 0, 1) := by decide +kernel
theorem dX0_errorWithout_9 : decode cX0_errorWithout 9 = .ok (.iload_n 1, 1) := by decide +kernel
theorem dX0_errorWithout_10 : decode cX0_errorWithout 10 = .ok (.invokevirtual 35, 3) := by decide +kernel
theorem dX0_errorWithout_13 : decode cX0_errorWithout 13 = .ok (.imul, 1) := by decide +kernel
theorem dX0_errorWithout_14 : decode cX0_errorWithout 14 = .ok (.ireturn, 1) := by decide +kernel
set_option maxRecDepth 20000 in
theorem ggX1_init_X0_init : GoodIn wsX1_init wsX0_init := goodIn_r _ [11, 12, 2, 3, 13, 14, 15, 16, 17, 21, 22, 23, 24] (by decide +kernel) (by decide +kernel)
set_option maxRecDepth 20000 in
theorem gX1_init_X0_init_n22 : GoodIn wsX1_init (wsX0_init) := ggX1_init_X0_init
theorem dX1_init_0 : decode cX1_init 0 = .ok (.aload_n 0, 1) := by decide +kernel
theorem dX1_init_1 : decode cX1_init 1 = .ok (.invokespecial 1, 3) := by decide +kernel
theorem dX1_init_4 : decode cX1_init 4 = .ok (.aload_n 0, 1) := by decide +kernel
theorem dX1_init_5 : decode cX1_init 5 = .ok (.bipush 6, 2) := by decide +kernel
theorem dX1_init_7 : decode cX1_init 7 = .ok (.anewarray 9, 3) := by decide +kernel
theorem dX1_init_10 : decode cX1_init 10 = .ok (.putfield 11, 3) := by decide +kernel
theorem dX1_init_13 : decode cX1_init 13 = .ok (.aload_n 0, 1) := by decide +kernel
theorem dX1_init_14 : decode cX1_init 14 = .ok (.iconst 0, 1) := by decide +kernel
theorem dX1_init_15 : decode cX1_init 15 = .ok (.putfield 15, 3) := by decide +kernel
theorem dX1_init_18 : decode cX1_init 18 = .ok (.aload_n 0, 1) := by decide +kernel
theorem dX1_init_19 : decode cX1_init 19 = .ok (.iconst 0, 1) := by decide +kernel
theorem dX1_init_20 : decode cX1_init 20 = .ok (.putfield 19, 3) := by decide +kernel
theorem dX1_init_23 : decode cX1_init 23 = .ok (.iconst 0, 1) := by decide +kernel
theorem dX1_init_24 : decode cX1_init 24 = .ok (.istore_n 1, 1) := by decide +kernel
theorem dX1_init_25 : decode cX1_init 25 = .ok (.iload_n 1, 1) := by decide +kernel
theorem dX1_init_26 : decode cX1_init 26 = .ok (.bipush 6, 2) := by decide +kernel
theorem dX1_init_28 : decode cX1_init 28 = .ok (.if_icmp .ge 22, 3) := by decide +kernel
theorem dX1_init_31 : decode cX1_init 31 = .ok (.aload_n 0, 1) := by decide +kernel
theorem dX1_init_32 : decode cX1_init 32 = .ok (.getfield 11, 3) := by decide +kernel
theorem dX1_init_35 : decode cX1_init 35 = .ok (.iload_n 1, 1) := by decide +kernel
theorem dX1_init_36 : decode cX1_init 36 = .ok (.new 9, 3) := by decide +kernel
theorem dX1_init_39 : decode cX1_init 39 = .ok (.dup, 1) := by decide +kernel
theorem dX1_init_40 : decode cX1_init 40 = .ok (.invokespecial 22, 3) := by decide +kernel
theorem dX1_init_43 : decode cX1_init 43 = .ok (.aastore, 1) := by decide +kernel
theorem dX1_init_44 : decode cX1_init 44 = .ok (.iinc 1 1, 3) := by decide +kernel
theorem dX1_init_47 : decode cX1_init 47 = .ok (.goto (-22), 3) := by decide +kernel
theorem dX1_init_50 : decode cX1_init 50 = .ok (.return_, 1) := by decide +kernel
set_option maxRecDepth 20000 in
theorem ggX1_push_X0_takeFrom : GoodIn wsX1_push wsX0_takeFrom := goodIn_r _ [11, 12, 13, 14, 15, 16, 17, 18, 19, 23, 24, 25, 26] (by decide +kernel) (by decide +kernel)
set_option maxRecDepth 20000 in
theorem gX1_push_X0_takeFrom_n23 : GoodIn wsX1_push (wsX0_takeFrom) := ggX1_push_X0_takeFrom
theorem dX1_push_0 : decode cX1_push 0 = .ok (.aload_n 0, 1) := by decide +kernel
theorem dX1_push_1 : decode cX1_push 1 = .ok (.getfield 11, 3) := by decide +kernel
theorem dX1_push_4 : decode cX1_push 4 = .ok (.aload_n 0, 1) := by decide +kernel
theorem dX1_push_5 : decode cX1_push 5 = .ok (.getfield 15, 3) := by decide +kernel
theorem dX1_push_8 : decode cX1_push 8 = .ok (.aaload, 1) := by decide +kernel
theorem dX1_push_9 : decode cX1_push 9 = .ok (.aload_n 1, 1) := by decide +kernel
theorem dX1_push_10 : decode cX1_push 10 = .ok (.invokevirtual 23, 3) := by decide +kernel
theorem dX1_push_13 : decode cX1_push 13 = .ok (.aload_n 0, 1) := by decide +kernel
theorem dX1_push_14 : decode cX1_push 14 = .ok (.aload_n 0, 1) := by decide +kernel
theorem dX1_push_15 : decode cX1_push 15 = .ok (.getfield 15, 3) := by decide +kernel
theorem dX1_push_18 : decode cX1_push 18 = .ok (.iconst 1, 1) := by decide +kernel
theorem dX1_push_19 : decode cX1_push 19 = .ok (.iadd, 1) := by decide +kernel
theorem dX1_push_20 : decode cX1_push 20 = .ok (.bipush 6, 2) := by decide +kernel
theorem dX1_push_22 : decode cX1_push 22 = .ok (.irem, 1) := by decide +kernel
theorem dX1_push_23 : decode cX1_push 23 = .ok (.putfield 15, 3) := by decide +kernel
theorem dX1_push_26 : decode cX1_push 26 = .ok (.aload_n 0, 1) := by decide +kernel
theorem dX1_push_27 : decode cX1_push 27 = .ok (.aload_n 0, 1) := by decide +kernel
theorem dX1_push_28 : decode cX1_push 28 = .ok (.getfield 19, 3) := by decide +kernel
theorem dX1_push_31 : decode cX1_push 31 = .ok (.iconst 1, 1) := by decide +kernel
theorem dX1_push_32 : decode cX1_push 32 = .ok (.iadd, 1) := by decide +kernel
theorem dX1_push_33 : decode cX1_push 33 = .ok (.bipush 6, 2) := by decide +kernel
theorem dX1_push_35 : decode cX1_push 35 = .ok (.invokestatic 27, 3) := by decide +kernel
theorem dX1_push_38 : decode cX1_push 38 = .ok (.putfield 19, 3) := by decide +kernel
theorem dX1_push_41 : decode cX1_push 41 = .ok (.return_, 1) := by decide +kernel
set_option maxRecDepth 20000 in
theorem ggX1_popInto_X0_takeFrom : GoodIn wsX1_popInto wsX0_takeFrom := goodIn_r _ [7, 8, 9, 10, 11, 12, 13, 14, 15, 19, 20, 21, 22] (by decide +kernel) (by decide +kernel)
set_option maxRecDepth 20000 in
theorem gX1_popInto_X0_takeFrom_n23 : GoodIn wsX1_popInto (wsX0_takeFrom) := ggX1_popInto_X0_takeFrom
theorem dX1_popInto_0 : decode cX1_popInto 0 = .ok (.aload_n 0, 1) := by decide +kernel
theorem dX1_popInto_1 : decode cX1_popInto 1 = .ok (.aload_n 0, 1) := by decide +kernel
theorem dX1_popInto_2 : decode cX1_popInto 2 = .ok (.getfield 15, 3) := by decide +kernel
theorem dX1_popInto_5 : decode cX1_popInto 5 = .ok (.bipush 6, 2) := by decide +kernel
theorem dX1_popInto_7 : decode cX1_popInto 7 = .ok (.iadd, 1) := by decide +kernel
theorem dX1_popInto_8 : decode cX1_popInto 8 = .ok (.iconst 1, 1) := by decide +kernel
theorem dX1_popInto_9 : decode cX1_popInto 9 = .ok (.isub, 1) := by decide +kernel
theorem dX1_popInto_10 : decode cX1_popInto 10 = .ok (.bipush 6, 2) := by decide +kernel
theorem dX1_popInto_12 : decode cX1_popInto 12 = .ok (.irem, 1) := by decide +kernel
theorem dX1_popInto_13 : decode cX1_popInto 13 = .ok (.putfield 15, 3) := by decide +kernel
theorem dX1_popInto_16 : decode cX1_popInto 16 = .ok (.aload_n 0, 1) := by decide +kernel
theorem dX1_popInto_17 : decode cX1_popInto 17 = .ok (.dup, 1) := by decide +kernel
theorem dX1_popInto_18 : decode cX1_popInto 18 = .ok (.getfield 19, 3) := by decide +kernel
theorem dX1_popInto_21 : decode cX1_popInto 21 = .ok (.iconst 1, 1) := by decide +kernel
theorem dX1_popInto_22 : decode cX1_popInto 22 = .ok (.isub, 1) := by decide +kernel
theorem dX1_popInto_23 : decode cX1_popInto 23 = .ok (.putfield 19, 3) := by decide +kernel
theorem dX1_popInto_26 : decode cX1_popInto 26 = .ok (.aload_n 1, 1) := by decide +kernel
theorem dX1_popInto_27 : decode cX1_popInto 27 = .ok (.aload_n 0, 1) := by decide +kernel
theorem dX1_popInto_28 : decode cX1_popInto 28 = .ok (.getfield 11, 3) := by decide +kernel
theorem dX1_popInto_31 : decode cX1_popInto 31 = .ok (.aload_n 0, 1) := by decide +kernel
theorem dX1_popInto_32 : decode cX1_popInto 32 = .ok (.getfield 15, 3) := by decide +kernel
theorem dX1_popInto_35 : decode cX1_popInto 35 = .ok (.aaload, 1) := by decide +kernel
theorem dX1_popInto_36 : decode cX1_popInto 36 = .ok (.invokevirtual 23, 3) := by decide +kernel
theorem dX1_popInto_39 : decode cX1_popInto 39 = .ok (.return_, 1) := by decide +kernel
theorem dX2_init_0 : decode cX2_init 0 = .ok (.aload_n 0, 1) := by decide +kernel
theorem dX2_init_1 : decode cX2_init 1 = .ok (.invokespecial 3, 3) := by decide +kernel
theorem dX2_init_4 : decode cX2_init 4 = .ok (.aload_n 0, 1) := by decide +kernel
theorem dX2_init_5 : decode cX2_init 5 = .ok (.bipush 60, 2) := by decide +kernel
theorem dX2_init_7 : decode cX2_init 7 = .ok (.newarray .char, 2) := by decide +kernel
theorem dX2_init_9 : decode cX2_init 9 = .ok (.putfield 11, 3) := by decide +kernel
theorem dX2_init_12 : decode cX2_init 12 = .ok (.aload_n 0, 1) := by decide +kernel
theorem dX2_init_13 : decode cX2_init 13 = .ok (.iconst 0, 1) := by decide +kernel
theorem dX2_init_14 : decode cX2_init 14 = .ok (.putfield 15, 3) := by decide +kernel
theorem dX2_init_17 : decode cX2_init 17 = .ok (.return_, 1) := by decide +kernel

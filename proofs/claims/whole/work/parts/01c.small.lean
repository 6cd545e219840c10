theorem dX0_init_0 : decode cX0_init 0 = .ok (.aload_n 0, 1) := by decide +kernel
theorem dX0_init_1 : decode cX0_init 1 = .ok (.invokespecial 3, 3) := by decide +kernel
theorem dX0_init_4 : decode cX0_init 4 = .ok (.aload_n 0, 1) := by decide +kernel
theorem dX0_init_5 : decode cX0_init 5 = .ok (.bipush 8, 2) := by decide +kernel
theorem dX0_init_7 : decode cX0_init 7 = .ok (.newarray .int, 2) := by decide +kernel
theorem dX0_init_9 : decode cX0_init 9 = .ok (.putfield 9, 3) := by decide +kernel
theorem dX0_init_12 : decode cX0_init 12 = .ok (.aload_n 0, 1) := by decide +kernel
theorem dX0_init_13 : decode cX0_init 13 = .ok (.bipush 8, 2) := by decide +kernel
theorem dX0_init_15 : decode cX0_init 15 = .ok (.newarray .int, 2) := by decide +kernel
theorem dX0_init_17 : decode cX0_init 17 = .ok (.putfield 15, 3) := by decide +kernel
theorem dX0_init_20 : decode cX0_init 20 = .ok (.aload_n 0, 1) := by decide +kernel
theorem dX0_init_21 : decode cX0_init 21 = .ok (.iconst 0, 1) := by decide +kernel
theorem dX0_init_22 : decode cX0_init 22 = .ok (.putfield 18, 3) := by decide +kernel
theorem dX0_init_25 : decode cX0_init 25 = .ok (.aload_n 0, 1) := by decide +kernel
theorem dX0_init_26 : decode cX0_init 26 = .ok (.iconst 0, 1) := by decide +kernel
theorem dX0_init_27 : decode cX0_init 27 = .ok (.putfield 22, 3) := by decide +kernel
theorem dX0_init_30 : decode cX0_init 30 = .ok (.return_, 1) := by decide +kernel
theorem dX0_takeFrom_0 : decode cX0_takeFrom 0 = .ok (.aload_n 1, 1) := by decide +kernel
theorem dX0_takeFrom_1 : decode cX0_takeFrom 1 = .ok (.getfield 9, 3) := by decide +kernel
theorem dX0_takeFrom_4 : decode cX0_takeFrom 4 = .ok (.iconst 0, 1) := by decide +kernel
theorem dX0_takeFrom_5 : decode cX0_takeFrom 5 = .ok (.aload_n 0, 1) := by decide +kernel
theorem dX0_takeFrom_6 : decode cX0_takeFrom 6 = .ok (.getfield 9, 3) := by decide +kernel
theorem dX0_takeFrom_9 : decode cX0_takeFrom 9 = .ok (.iconst 0, 1) := by decide +kernel
theorem dX0_takeFrom_10 : decode cX0_takeFrom 10 = .ok (.bipush 8, 2) := by decide +kernel
theorem dX0_takeFrom_12 : decode cX0_takeFrom 12 = .ok (.invokestatic 25, 3) := by decide +kernel
theorem dX0_takeFrom_15 : decode cX0_takeFrom 15 = .ok (.aload_n 1, 1) := by decide +kernel
theorem dX0_takeFrom_16 : decode cX0_takeFrom 16 = .ok (.getfield 15, 3) := by decide +kernel
theorem dX0_takeFrom_19 : decode cX0_takeFrom 19 = .ok (.iconst 0, 1) := by decide +kernel
theorem dX0_takeFrom_20 : decode cX0_takeFrom 20 = .ok (.aload_n 0, 1) := by decide +kernel
theorem dX0_takeFrom_21 : decode cX0_takeFrom 21 = .ok (.getfield 15, 3) := by decide +kernel
theorem dX0_takeFrom_24 : decode cX0_takeFrom 24 = .ok (.iconst 0, 1) := by decide +kernel
theorem dX0_takeFrom_25 : decode cX0_takeFrom 25 = .ok (.bipush 8, 2) := by decide +kernel
theorem dX0_takeFrom_27 : decode cX0_takeFrom 27 = .ok (.invokestatic 25, 3) := by decide +kernel
theorem dX0_takeFrom_30 : decode cX0_takeFrom 30 = .ok (.aload_n 0, 1) := by decide +kernel
theorem dX0_takeFrom_31 : decode cX0_takeFrom 31 = .ok (.aload_n 1, 1) := by decide +kernel
theorem dX0_takeFrom_32 : decode cX0_takeFrom 32 = .ok (.getfield 18, 3) := by decide +kernel
theorem dX0_takeFrom_35 : decode cX0_takeFrom 35 = .ok (.putfield 18, 3) := by decide +kernel
theorem dX0_takeFrom_38 : decode cX0_takeFrom 38 = .ok (.aload_n 0, 1) := by decide +kernel
theorem dX0_takeFrom_39 : decode cX0_takeFrom 39 = .ok (.aload_n 1, 1) := by decide +kernel
theorem dX0_takeFrom_40 : decode cX0_takeFrom 40 = .ok (.getfield 22, 3) := by decide +kernel
theorem dX0_takeFrom_43 : decode cX0_takeFrom 43 = .ok (.putfield 22, 3) := by decide +kernel
theorem dX0_takeFrom_46 : decode cX0_takeFrom 46 = .ok (.return_, 1) := by decide +kernel
theorem dX0_isLost_0 : decode cX0_isLost 0 = .ok (.aload_n 0, 1) := by decide +kernel
theorem dX0_isLost_1 : decode cX0_isLost 1 = .ok (.getfield 18, 3) := by decide +kernel
theorem dX0_isLost_4 : decode cX0_isLost 4 = .ok (.iload_n 1, 1) := by decide +kernel
theorem dX0_isLost_5 : decode cX0_isLost 5 = .ok (.ishr, 1) := by decide +kernel
theorem dX0_isLost_6 : decode cX0_isLost 6 = .ok (.iconst 1, 1) := by decide +kernel
theorem dX0_isLost_7 : decode cX0_isLost 7 = .ok (.iand, 1) := by decide +kernel
theorem dX0_isLost_8 : decode cX0_isLost 8 = .ok (.iconst 1, 1) := by decide +kernel
theorem dX0_isLost_9 : decode cX0_isLost 9 = .ok (.if_icmp .ne 7, 3) := by decide +kernel
theorem dX0_isLost_12 : decode cX0_isLost 12 = .ok (.iconst 1, 1) := by decide +kernel
theorem dX0_isLost_13 : decode cX0_isLost 13 = .ok (.goto 4, 3) := by decide +kernel
theorem dX0_isLost_16 : decode cX0_isLost 16 = .ok (.iconst 0, 1) := by decide +kernel
theorem dX0_isLost_17 : decode cX0_isLost 17 = .ok (.ireturn, 1) := by decide +kernel
set_option maxRecDepth 20000 in
theorem ggX0_drawnAmplitude_X0_isLost : GoodIn wsX0_drawnAmplitude wsX0_isLost := goodIn_r _ [6, 7, 8, 9, 10, 11] (by decide +kernel) (by decide +kernel)
set_option maxRecDepth 20000 in
theorem gX0_drawnAmplitude_X0_isLost : GoodIn wsX0_drawnAmplitude (wsV RX0 31 RX0 yX0_isLost wsX0_isLost) := goodIn_app (goodIn_of _ (by decide +kernel)) ggX0_drawnAmplitude_X0_isLost
theorem dX0_drawnAmplitude_0 : decode cX0_drawnAmplitude 0 = .ok (.aload_n 0, 1) := by decide +kernel
theorem dX0_drawnAmplitude_1 : decode cX0_drawnAmplitude 1 = .ok (.iload_n 1, 1) := by decide +kernel
theorem dX0_drawnAmplitude_2 : decode cX0_drawnAmplitude 2 = .ok (.invokevirtual 31, 3) := by decide +kernel
theorem dX0_drawnAmplitude_5 : decode cX0_drawnAmplitude 5 = .ok (.ifCond .eq 7, 3) := by decide +kernel
theorem dX0_drawnAmplitude_8 : decode cX0_drawnAmplitude 8 = .ok (.iconst 0, 1) := by decide +kernel
theorem dX0_drawnAmplitude_9 : decode cX0_drawnAmplitude 9 = .ok (.goto 9, 3) := by decide +kernel
theorem dX0_drawnAmplitude_12 : decode cX0_drawnAmplitude 12 = .ok (.aload_n 0, 1) := by decide +kernel
theorem dX0_drawnAmplitude_13 : decode cX0_drawnAmplitude 13 = .ok (.getfield 9, 3) := by decide +kernel
theorem dX0_drawnAmplitude_16 : decode cX0_drawnAmplitude 16 = .ok (.iload_n 1, 1) := by decide +kernel
theorem dX0_drawnAmplitude_17 : decode cX0_drawnAmplitude 17 = .ok (.iaload, 1) := by decide +kernel
theorem dX0_drawnAmplitude_18 : decode cX0_drawnAmplitude 18 = .ok (.ireturn, 1) := by decide +kernel
theorem dX0_drawingWheels_0 : decode cX0_drawingWheels 0 = .ok (.iconst 0, 1) := by decide +kernel
theorem dX0_drawingWheels_1 : decode cX0_drawingWheels 1 = .ok (.istore_n 1, 1) := by decide +kernel
theorem dX0_drawingWheels_2 : decode cX0_drawingWheels 2 = .ok (.iconst 0, 1) := by decide +kernel
theorem dX0_drawingWheels_3 : decode cX0_drawingWheels 3 = .ok (.istore_n 2, 1) := by decide +kernel
theorem dX0_drawingWheels_4 : decode cX0_drawingWheels 4 = .ok (.iload_n 2, 1) := by decide +kernel
theorem dX0_drawingWheels_5 : decode cX0_drawingWheels 5 = .ok (.bipush 8, 2) := by decide +kernel
theorem dX0_drawingWheels_7 : decode cX0_drawingWheels 7 = .ok (.if_icmp .ge 26, 3) := by decide +kernel
theorem dX0_drawingWheels_10 : decode cX0_drawingWheels 10 = .ok (.iload_n 1, 1) := by decide +kernel
theorem dX0_drawingWheels_11 : decode cX0_drawingWheels 11 = .ok (.aload_n 0, 1) := by decide +kernel
theorem dX0_drawingWheels_12 : decode cX0_drawingWheels 12 = .ok (.getfield 9, 3) := by decide +kernel
theorem dX0_drawingWheels_15 : decode cX0_drawingWheels 15 = .ok (.iload_n 2, 1) := by decide +kernel
theorem dX0_drawingWheels_16 : decode cX0_drawingWheels 16 = .ok (.iaload, 1) := by decide +kernel
theorem dX0_drawingWheels_17 : decode cX0_drawingWheels 17 = .ok (.ifCond .eq 7, 3) := by decide +kernel
theorem dX0_drawingWheels_20 : decode cX0_drawingWheels 20 = .ok (.iconst 1, 1) := by decide +kernel
theorem dX0_drawingWheels_21 : decode cX0_drawingWheels 21 = .ok (.goto 4, 3) := by decide +kernel
theorem dX0_drawingWheels_24 : decode cX0_drawingWheels 24 = .ok (.iconst 0, 1) := by decide +kernel
theorem dX0_drawingWheels_25 : decode cX0_drawingWheels 25 = .ok (.iadd, 1) := by decide +kernel
theorem dX0_drawingWheels_26 : decode cX0_drawingWheels 26 = .ok (.istore_n 1, 1) := by decide +kernel
theorem dX0_drawingWheels_27 : decode cX0_drawingWheels 27 = .ok (.iinc 2 1, 3) := by decide +kernel
theorem dX0_drawingWheels_30 : decode cX0_drawingWheels 30 = .ok (.goto (-26), 3) := by decide +kernel
theorem dX0_drawingWheels_33 : decode cX0_drawingWheels 33 = .ok (.iload_n 1, 1) := by decide +kernel
theorem dX0_drawingWheels_34 : decode cX0_drawingWheels 34 = .ok (.ireturn, 1) := by decide +kernel
set_option maxRecDepth 20000 in
theorem ggX0_traceAt_X0_drawnAmplitude : GoodIn wsX0_traceAt wsX0_drawnAmplitude := goodIn_r _ [5, 6, 7, 8, 9, 4, 10, 11, 22, 23, 24, 25] (by decide +kernel) (by decide +kernel)
set_option maxRecDepth 20000 in
theorem gX0_traceAt_X0_drawnAmplitude : GoodIn wsX0_traceAt (wsV RX0 35 RX0 yX0_drawnAmplitude wsX0_drawnAmplitude) := goodIn_app (goodIn_of _ (by decide +kernel)) ggX0_traceAt_X0_drawnAmplitude
set_option maxRecDepth 20000 in
theorem ggX0_traceAt_X3_wave : GoodIn wsX0_traceAt wsX3_wave := goodIn_r _ [14, 15, 16, 17, 18, 19, 20, 21] (by decide +kernel) (by decide +kernel)
set_option maxRecDepth 20000 in
theorem gX0_traceAt_X3_wave_n39 : GoodIn wsX0_traceAt (wsX3_wave) := ggX0_traceAt_X3_wave
theorem dX0_traceAt_0 : decode cX0_traceAt 0 = .ok (.iconst 0, 1) := by decide +kernel
theorem dX0_traceAt_1 : decode cX0_traceAt 1 = .ok (.istore_n 2, 1) := by decide +kernel
theorem dX0_traceAt_2 : decode cX0_traceAt 2 = .ok (.iconst 0, 1) := by decide +kernel
theorem dX0_traceAt_3 : decode cX0_traceAt 3 = .ok (.istore_n 3, 1) := by decide +kernel
theorem dX0_traceAt_4 : decode cX0_traceAt 4 = .ok (.iload_n 3, 1) := by decide +kernel
theorem dX0_traceAt_5 : decode cX0_traceAt 5 = .ok (.bipush 8, 2) := by decide +kernel
theorem dX0_traceAt_7 : decode cX0_traceAt 7 = .ok (.if_icmp .ge 23, 3) := by decide +kernel
theorem dX0_traceAt_10 : decode cX0_traceAt 10 = .ok (.iload_n 2, 1) := by decide +kernel
theorem dX0_traceAt_11 : decode cX0_traceAt 11 = .ok (.aload_n 0, 1) := by decide +kernel
theorem dX0_traceAt_12 : decode cX0_traceAt 12 = .ok (.iload_n 3, 1) := by decide +kernel
theorem dX0_traceAt_13 : decode cX0_traceAt 13 = .ok (.invokevirtual 35, 3) := by decide +kernel
theorem dX0_traceAt_16 : decode cX0_traceAt 16 = .ok (.iload_n 3, 1) := by decide +kernel
theorem dX0_traceAt_17 : decode cX0_traceAt 17 = .ok (.iload_n 1, 1) := by decide +kernel
theorem dX0_traceAt_18 : decode cX0_traceAt 18 = .ok (.invokestatic 39, 3) := by decide +kernel
theorem dX0_traceAt_21 : decode cX0_traceAt 21 = .ok (.imul, 1) := by decide +kernel
theorem dX0_traceAt_22 : decode cX0_traceAt 22 = .ok (.iadd, 1) := by decide +kernel
theorem dX0_traceAt_23 : decode cX0_traceAt 23 = .ok (.istore_n 2, 1) := by decide +kernel
theorem dX0_traceAt_24 : decode cX0_traceAt 24 = .ok (.iinc 3 1, 3) := by decide +kernel
theorem dX0_traceAt_27 : decode cX0_traceAt 27 = .ok (.goto (-23), 3) := by decide +kernel
theorem dX0_traceAt_30 : decode cX0_traceAt 30 = .ok (.iload_n 2, 1) := by decide +kernel
theorem dX0_traceAt_31 : decode cX0_traceAt 31 = .ok (.ireturn, 1) := by decide +kernel
set_option maxRecDepth 20000 in
theorem ggX0_differenceAt_X0_traceAt : GoodIn wsX0_differenceAt wsX0_traceAt := goodIn_r _ [6, 7, 8, 9, 5, 10, 11, 12, 13, 14, 15, 16, 17, 18, 19, 20, 21, 22, 23, 24, 25, 26, 27, 28, 29, 30] (by decide +kernel) (by decide +kernel)
set_option maxRecDepth 20000 in
theorem gX0_differenceAt_X0_traceAt : GoodIn wsX0_differenceAt (wsV RX0 43 RX0 yX0_traceAt wsX0_traceAt) := goodIn_app (goodIn_of _ (by decide +kernel)) ggX0_differenceAt_X0_traceAt
theorem dX0_differenceAt_0 : decode cX0_differenceAt 0 = .ok (.aload_n 0, 1) := by decide +kernel
theorem dX0_differenceAt_1 : decode cX0_differenceAt 1 = .ok (.getfield 15, 3) := by decide +kernel
theorem dX0_differenceAt_4 : decode cX0_differenceAt 4 = .ok (.iload_n 1, 1) := by decide +kernel
theorem dX0_differenceAt_5 : decode cX0_differenceAt 5 = .ok (.iaload, 1) := by decide +kernel
theorem dX0_differenceAt_6 : decode cX0_differenceAt 6 = .ok (.aload_n 0, 1) := by decide +kernel
theorem dX0_differenceAt_7 : decode cX0_differenceAt 7 = .ok (.iload_n 1, 1) := by decide +kernel
theorem dX0_differenceAt_8 : decode cX0_differenceAt 8 = .ok (.invokevirtual 43, 3) := by decide +kernel
theorem dX0_differenceAt_11 : decode cX0_differenceAt 11 = .ok (.isub, 1) := by decide +kernel
theorem dX0_differenceAt_12 : decode cX0_differenceAt 12 = .ok (.ireturn, 1) := by decide +kernel
set_option maxRecDepth 20000 in
theorem ggX0_jumpAt_X0_traceAt : GoodIn wsX0_jumpAt wsX0_traceAt := goodIn_r _ [5, 6, 7, 8, 4, 9, 10, 11, 12, 13, 14, 15, 16, 17, 18, 19, 20, 21, 22, 23, 24, 25, 26, 27, 28, 29] (by decide +kernel) (by decide +kernel)
set_option maxRecDepth 20000 in
theorem gX0_jumpAt_X0_traceAt : GoodIn wsX0_jumpAt (wsV RX0 43 RX0 yX0_traceAt wsX0_traceAt) := goodIn_app (goodIn_of _ (by decide +kernel)) ggX0_jumpAt_X0_traceAt
theorem dX0_jumpAt_0 : decode cX0_jumpAt 0 = .ok (.aload_n 0, 1) := by decide +kernel
theorem dX0_jumpAt_1 : decode cX0_jumpAt 1 = .ok (.iload_n 1, 1) := by decide +kernel
theorem dX0_jumpAt_2 : decode cX0_jumpAt 2 = .ok (.iconst 1, 1) := by decide +kernel
theorem dX0_jumpAt_3 : decode cX0_jumpAt 3 = .ok (.iadd, 1) := by decide +kernel
theorem dX0_jumpAt_4 : decode cX0_jumpAt 4 = .ok (.bipush 8, 2) := by decide +kernel
theorem dX0_jumpAt_6 : decode cX0_jumpAt 6 = .ok (.irem, 1) := by decide +kernel
theorem dX0_jumpAt_7 : decode cX0_jumpAt 7 = .ok (.invokevirtual 43, 3) := by decide +kernel
theorem dX0_jumpAt_10 : decode cX0_jumpAt 10 = .ok (.aload_n 0, 1) := by decide +kernel
theorem dX0_jumpAt_11 : decode cX0_jumpAt 11 = .ok (.iload_n 1, 1) := by decide +kernel
theorem dX0_jumpAt_12 : decode cX0_jumpAt 12 = .ok (.invokevirtual 43, 3) := by decide +kernel
theorem dX0_jumpAt_15 : decode cX0_jumpAt 15 = .ok (.isub, 1) := by decide +kernel
theorem dX0_jumpAt_16 : decode cX0_jumpAt 16 = .ok (.ireturn, 1) := by decide +kernel
set_option maxRecDepth 20000 in
theorem ggX0_patternAmplitude_X3_wave : GoodIn wsX0_patternAmplitude wsX3_wave := goodIn_r _ [4, 5, 6, 7, 8, 9, 10, 11] (by decide +kernel) (by decide +kernel)
set_option maxRecDepth 20000 in
theorem gX0_patternAmplitude_X3_wave_n39 : GoodIn wsX0_patternAmplitude (wsX3_wave) := ggX0_patternAmplitude_X3_wave
set_option maxRecDepth 20000 in
theorem ggX0_patternAmplitude_J9_floorDiv_7cf53 : GoodIn wsX0_patternAmplitude wsJ9_floorDiv_7cf53 := goodIn_r _ [15] (by decide +kernel) (by decide +kernel)
set_option maxRecDepth 20000 in
theorem gX0_patternAmplitude_J9_floorDiv_7cf53 : GoodIn wsX0_patternAmplitude (va_wsS RX0 46 yJ9_floorDiv_7cf53 wsJ9_floorDiv_7cf53) := goodIn_app (goodIn_of _ (by decide +kernel)) ggX0_patternAmplitude_J9_floorDiv_7cf53
theorem dX0_patternAmplitude_0 : decode cX0_patternAmplitude 0 = .ok (.iconst 0, 1) := by decide +kernel
theorem dX0_patternAmplitude_1 : decode cX0_patternAmplitude 1 = .ok (.istore_n 2, 1) := by decide +kernel
theorem dX0_patternAmplitude_2 : decode cX0_patternAmplitude 2 = .ok (.iconst 0, 1) := by decide +kernel
theorem dX0_patternAmplitude_3 : decode cX0_patternAmplitude 3 = .ok (.istore_n 3, 1) := by decide +kernel
theorem dX0_patternAmplitude_4 : decode cX0_patternAmplitude 4 = .ok (.iload_n 3, 1) := by decide +kernel
theorem dX0_patternAmplitude_5 : decode cX0_patternAmplitude 5 = .ok (.bipush 8, 2) := by decide +kernel
theorem dX0_patternAmplitude_7 : decode cX0_patternAmplitude 7 = .ok (.if_icmp .ge 24, 3) := by decide +kernel
theorem dX0_patternAmplitude_10 : decode cX0_patternAmplitude 10 = .ok (.iload_n 2, 1) := by decide +kernel
theorem dX0_patternAmplitude_11 : decode cX0_patternAmplitude 11 = .ok (.aload_n 0, 1) := by decide +kernel
theorem dX0_patternAmplitude_12 : decode cX0_patternAmplitude 12 = .ok (.getfield 15, 3) := by decide +kernel
theorem dX0_patternAmplitude_15 : decode cX0_patternAmplitude 15 = .ok (.iload_n 3, 1) := by decide +kernel
theorem dX0_patternAmplitude_16 : decode cX0_patternAmplitude 16 = .ok (.iaload, 1) := by decide +kernel
theorem dX0_patternAmplitude_17 : decode cX0_patternAmplitude 17 = .ok (.iload_n 1, 1) := by decide +kernel
theorem dX0_patternAmplitude_18 : decode cX0_patternAmplitude 18 = .ok (.iload_n 3, 1) := by decide +kernel
theorem dX0_patternAmplitude_19 : decode cX0_patternAmplitude 19 = .ok (.invokestatic 39, 3) := by decide +kernel
theorem dX0_patternAmplitude_22 : decode cX0_patternAmplitude 22 = .ok (.imul, 1) := by decide +kernel
theorem dX0_patternAmplitude_23 : decode cX0_patternAmplitude 23 = .ok (.iadd, 1) := by decide +kernel
theorem dX0_patternAmplitude_24 : decode cX0_patternAmplitude 24 = .ok (.istore_n 2, 1) := by decide +kernel
theorem dX0_patternAmplitude_25 : decode cX0_patternAmplitude 25 = .ok (.iinc 3 1, 3) := by decide +kernel
theorem dX0_patternAmplitude_28 : decode cX0_patternAmplitude 28 = .ok (.goto (-24), 3) := by decide +kernel
theorem dX0_patternAmplitude_31 : decode cX0_patternAmplitude 31 = .ok (.iload_n 2, 1) := by decide +kernel
theorem dX0_patternAmplitude_32 : decode cX0_patternAmplitude 32 = .ok (.bipush 8, 2) := by decide +kernel
theorem dX0_patternAmplitude_34 : decode cX0_patternAmplitude 34 = .ok (.invokestatic 46, 3) := by decide +kernel
theorem dX0_patternAmplitude_37 : decode cX0_patternAmplitude 37 = .ok (.ireturn, 1) := by decide +kernel
set_option maxRecDepth 20000 in
theorem ggX0_errorWithout_X0_drawnAmplitude : GoodIn wsX0_errorWithout wsX0_drawnAmplitude := goodIn_r _ [5, 6, 7, 8, 9, 4, 10, 11, 12, 13, 14, 15] (by decide +kernel) (by decide +kernel)
set_option maxRecDepth 20000 in
theorem gX0_errorWithout_X0_drawnAmplitude : GoodIn wsX0_errorWithout (wsV RX0 35 RX0 yX0_drawnAmplitude wsX0_drawnAmplitude) := goodIn_app (goodIn_of _ (by decide +kernel)) ggX0_errorWithout_X0_drawnAmplitude
theorem dX0_errorWithout_0 : decode cX0_errorWithout 0 = .ok (.bipush 8, 2) := by decide +kernel
theorem dX0_errorWithout_2 : decode cX0_errorWithout 2 = .ok (.aload_n 0, 1) := by decide +kernel
theorem dX0_errorWithout_3 : decode cX0_errorWithout 3 = .ok (.iload_n 1, 1) := by decide +kernel
theorem dX0_errorWithout_4 : decode cX0_errorWithout 4 = .ok (.invokevirtual 35, 3) := by decide +kernel
theorem dX0_errorWithout_7 : decode cX0_errorWithout 7 = .ok (.imul, 1) := by decide +kernel
theorem dX0_errorWithout_8 : decode cX0_errorWithout 8 = .ok (.aload_n 0, 1) := by decide +kernel
theorem dX0_errorWithout_9 : decode cX0_errorWithout 9 = .ok (.iload_n 1, 1) := by decide +kernel
theorem dX0_errorWithout_10 : decode cX0_errorWithout 10 = .ok (.invokevirtual 35, 3) := by decide +kernel
theorem dX0_errorWithout_13 : decode cX0_errorWithout 13 = .ok (.imul, 1) := by decide +kernel
theorem dX0_errorWithout_14 : decode cX0_errorWithout 14 = .ok (.ireturn, 1) := by decide +kernel
set_option maxRecDepth 20000 in
theorem ggX1_init_X0_init : GoodIn wsX1_init wsX0_init := goodIn_r _ [11, 12, 2, 3, 13, 14, 15, 16, 17, 21, 22, 23, 24] (by decide +kernel) (by decide +kernel)
set_option maxRecDepth 20000 in
theorem gX1_init_X0_init_n22 : GoodIn wsX1_init (wsX0_init) := ggX1_init_X0_init
theorem dX1_init_0 : decode cX1_init 0 = .ok (.aload_n 0, 1) := by decide +kernel
theorem dX1_init_1 : decode cX1_init 1 = .ok (.invokespecial 1, 3) := by decide +kernel
theorem dX1_init_4 : decode cX1_init 4 = .ok (.aload_n 0, 1) := by decide +kernel
theorem dX1_init_5 : decode cX1_init 5 = .ok (.bipush 6, 2) := by decide +kernel
theorem dX1_init_7 : decode cX1_init 7 = .ok (.anewarray 9, 3) := by decide +kernel
theorem dX1_init_10 : decode cX1_init 10 = .ok (.putfield 11, 3) := by decide +kernel
theorem dX1_init_13 : decode cX1_init 13 = .ok (.aload_n 0, 1) := by decide +kernel
theorem dX1_init_14 : decode cX1_init 14 = .ok (.iconst 0, 1) := by decide +kernel
theorem dX1_init_15 : decode cX1_init 15 = .ok (.putfield 15, 3) := by decide +kernel
theorem dX1_init_18 : decode cX1_init 18 = .ok (.aload_n 0, 1) := by decide +kernel
theorem dX1_init_19 : decode cX1_init 19 = .ok (.iconst 0, 1) := by decide +kernel
theorem dX1_init_20 : decode cX1_init 20 = .ok (.putfield 19, 3) := by decide +kernel
theorem dX1_init_23 : decode cX1_init 23 = .ok (.iconst 0, 1) := by decide +kernel
theorem dX1_init_24 : decode cX1_init 24 = .ok (.istore_n 1, 1) := by decide +kernel
theorem dX1_init_25 : decode cX1_init 25 = .ok (.iload_n 1, 1) := by decide +kernel
theorem dX1_init_26 : decode cX1_init 26 = .ok (.bipush 6, 2) := by decide +kernel
theorem dX1_init_28 : decode cX1_init 28 = .ok (.if_icmp .ge 22, 3) := by decide +kernel
theorem dX1_init_31 : decode cX1_init 31 = .ok (.aload_n 0, 1) := by decide +kernel
theorem dX1_init_32 : decode cX1_init 32 = .ok (.getfield 11, 3) := by decide +kernel
theorem dX1_init_35 : decode cX1_init 35 = .ok (.iload_n 1, 1) := by decide +kernel
theorem dX1_init_36 : decode cX1_init 36 = .ok (.new 9, 3) := by decide +kernel
theorem dX1_init_39 : decode cX1_init 39 = .ok (.dup, 1) := by decide +kernel
theorem dX1_init_40 : decode cX1_init 40 = .ok (.invokespecial 22, 3) := by decide +kernel
theorem dX1_init_43 : decode cX1_init 43 = .ok (.aastore, 1) := by decide +kernel
theorem dX1_init_44 : decode cX1_init 44 = .ok (.iinc 1 1, 3) := by decide +kernel
theorem dX1_init_47 : decode cX1_init 47 = .ok (.goto (-22), 3) := by decide +kernel
theorem dX1_init_50 : decode cX1_init 50 = .ok (.return_, 1) := by decide +kernel
set_option maxRecDepth 20000 in
theorem ggX1_push_X0_takeFrom : GoodIn wsX1_push wsX0_takeFrom := goodIn_r _ [11, 12, 13, 14, 15, 16, 17, 18, 19, 23, 24, 25, 26] (by decide +kernel) (by decide +kernel)
set_option maxRecDepth 20000 in
theorem gX1_push_X0_takeFrom_n23 : GoodIn wsX1_push (wsX0_takeFrom) := ggX1_push_X0_takeFrom
theorem dX1_push_0 : decode cX1_push 0 = .ok (.aload_n 0, 1) := by decide +kernel
theorem dX1_push_1 : decode cX1_push 1 = .ok (.getfield 11, 3) := by decide +kernel
theorem dX1_push_4 : decode cX1_push 4 = .ok (.aload_n 0, 1) := by decide +kernel
theorem dX1_push_5 : decode cX1_push 5 = .ok (.getfield 15, 3) := by decide +kernel
theorem dX1_push_8 : decode cX1_push 8 = .ok (.aaload, 1) := by decide +kernel
theorem dX1_push_9 : decode cX1_push 9 = .ok (.aload_n 1, 1) := by decide +kernel
theorem dX1_push_10 : decode cX1_push 10 = .ok (.invokevirtual 23, 3) := by decide +kernel
theorem dX1_push_13 : decode cX1_push 13 = .ok (.aload_n 0, 1) := by decide +kernel
theorem dX1_push_14 : decode cX1_push 14 = .ok (.aload_n 0, 1) := by decide +kernel
theorem dX1_push_15 : decode cX1_push 15 = .ok (.getfield 15, 3) := by decide +kernel
theorem dX1_push_18 : decode cX1_push 18 = .ok (.iconst 1, 1) := by decide +kernel
theorem dX1_push_19 : decode cX1_push 19 = .ok (.iadd, 1) := by decide +kernel
theorem dX1_push_20 : decode cX1_push 20 = .ok (.bipush 6, 2) := by decide +kernel
theorem dX1_push_22 : decode cX1_push 22 = .ok (.irem, 1) := by decide +kernel
theorem dX1_push_23 : decode cX1_push 23 = .ok (.putfield 15, 3) := by decide +kernel
theorem dX1_push_26 : decode cX1_push 26 = .ok (.aload_n 0, 1) := by decide +kernel
theorem dX1_push_27 : decode cX1_push 27 = .ok (.aload_n 0, 1) := by decide +kernel
theorem dX1_push_28 : decode cX1_push 28 = .ok (.getfield 19, 3) := by decide +kernel
theorem dX1_push_31 : decode cX1_push 31 = .ok (.iconst 1, 1) := by decide +kernel
theorem dX1_push_32 : decode cX1_push 32 = .ok (.iadd, 1) := by decide +kernel
theorem dX1_push_33 : decode cX1_push 33 = .ok (.bipush 6, 2) := by decide +kernel
theorem dX1_push_35 : decode cX1_push 35 = .ok (.invokestatic 27, 3) := by decide +kernel
theorem dX1_push_38 : decode cX1_push 38 = .ok (.putfield 19, 3) := by decide +kernel
theorem dX1_push_41 : decode cX1_push 41 = .ok (.return_, 1) := by decide +kernel
set_option maxRecDepth 20000 in
theorem ggX1_popInto_X0_takeFrom : GoodIn wsX1_popInto wsX0_takeFrom := goodIn_r _ [7, 8, 9, 10, 11, 12, 13, 14, 15, 19, 20, 21, 22] (by decide +kernel) (by decide +kernel)
set_option maxRecDepth 20000 in
theorem gX1_popInto_X0_takeFrom_n23 : GoodIn wsX1_popInto (wsX0_takeFrom) := ggX1_popInto_X0_takeFrom
theorem dX1_popInto_0 : decode cX1_popInto 0 = .ok (.aload_n 0, 1) := by decide +kernel
theorem dX1_popInto_1 : decode cX1_popInto 1 = .ok (.aload_n 0, 1) := by decide +kernel
theorem dX1_popInto_2 : decode cX1_popInto 2 = .ok (.getfield 15, 3) := by decide +kernel
theorem dX1_popInto_5 : decode cX1_popInto 5 = .ok (.bipush 6, 2) := by decide +kernel
theorem dX1_popInto_7 : decode cX1_popInto 7 = .ok (.iadd, 1) := by decide +kernel
theorem dX1_popInto_8 : decode cX1_popInto 8 = .ok (.iconst 1, 1) := by decide +kernel
theorem dX1_popInto_9 : decode cX1_popInto 9 = .ok (.isub, 1) := by decide +kernel
theorem dX1_popInto_10 : decode cX1_popInto 10 = .ok (.bipush 6, 2) := by decide +kernel
theorem dX1_popInto_12 : decode cX1_popInto 12 = .ok (.irem, 1) := by decide +kernel
theorem dX1_popInto_13 : decode cX1_popInto 13 = .ok (.putfield 15, 3) := by decide +kernel
theorem dX1_popInto_16 : decode cX1_popInto 16 = .ok (.aload_n 0, 1) := by decide +kernel
theorem dX1_popInto_17 : decode cX1_popInto 17 = .ok (.dup, 1) := by decide +kernel
theorem dX1_popInto_18 : decode cX1_popInto 18 = .ok (.getfield 19, 3) := by decide +kernel
theorem dX1_popInto_21 : decode cX1_popInto 21 = .ok (.iconst 1, 1) := by decide +kernel
theorem dX1_popInto_22 : decode cX1_popInto 22 = .ok (.isub, 1) := by decide +kernel
theorem dX1_popInto_23 : decode cX1_popInto 23 = .ok (.putfield 19, 3) := by decide +kernel
theorem dX1_popInto_26 : decode cX1_popInto 26 = .ok (.aload_n 1, 1) := by decide +kernel
theorem dX1_popInto_27 : decode cX1_popInto 27 = .ok (.aload_n 0, 1) := by decide +kernel
theorem dX1_popInto_28 : decode cX1_popInto 28 = .ok (.getfield 11, 3) := by decide +kernel
theorem dX1_popInto_31 : decode cX1_popInto 31 = .ok (.aload_n 0, 1) := by decide +kernel
theorem dX1_popInto_32 : decode cX1_popInto 32 = .ok (.getfield 15, 3) := by decide +kernel
theorem dX1_popInto_35 : decode cX1_popInto 35 = .ok (.aaload, 1) := by decide +kernel
theorem dX1_popInto_36 : decode cX1_popInto 36 = .ok (.invokevirtual 23, 3) := by decide +kernel
theorem dX1_popInto_39 : decode cX1_popInto 39 = .ok (.return_, 1) := by decide +kernel
theorem dX2_init_0 : decode cX2_init 0 = .ok (.aload_n 0, 1) := by decide +kernel
theorem dX2_init_1 : decode cX2_init 1 = .ok (.invokespecial 3, 3) := by decide +kernel
theorem dX2_init_4 : decode cX2_init 4 = .ok (.aload_n 0, 1) := by decide +kernel
theorem dX2_init_5 : decode cX2_init 5 = .ok (.bipush 60, 2) := by decide +kernel
theorem dX2_init_7 : decode cX2_init 7 = .ok (.newarray .char, 2) := by decide +kernel
theorem dX2_init_9 : decode cX2_init 9 = .ok (.putfield 11, 3) := by decide +kernel
theorem dX2_init_12 : decode cX2_init 12 = .ok (.aload_n 0, 1) := by decide +kernel
theorem dX2_init_13 : decode cX2_init 13 = .ok (.iconst 0, 1) := by decide +kernel
theorem dX2_init_14 : decode cX2_init 14 = .ok (.putfield 15, 3) := by decide +kernel
theorem dX2_init_17 : decode cX2_init 17 = .ok (.return_, 1) := by decide +kernel
theorem dX2_isFull_0 : decode cX2_isFull 0 = .ok (.aload_n 0, 1) := by decide +kernel
theorem dX2_isFull_1 : decode cX2_isFull 1 = .ok (.getfield 15, 3) := by decide +kernel
theorem dX2_isFull_4 : decode cX2_isFull 4 = .ok (.bipush 60, 2) := by decide +kernel
theorem dX2_isFull_6 : decode cX2_isFull 6 = .ok (.if_icmp .lt 7, 3) := by decide +kernel
theorem dX2_isFull_9 : decode cX2_isFull 9 = .ok (.iconst 1, 1) := by decide +kernel
theorem dX2_isFull_10 : decode cX2_isFull 10 = .ok (.goto 4, 3) := by decide +kernel
theorem dX2_isFull_13 : decode cX2_isFull 13 = .ok (.iconst 0, 1) := by decide +kernel
theorem dX2_isFull_14 : decode cX2_isFull 14 = .ok (.ireturn, 1) := by decide +kernel
theorem dX2_put_0 : decode cX2_put 0 = .ok (.aload_n 0, 1) := by decide +kernel
theorem dX2_put_1 : decode cX2_put 1 = .ok (.getfield 11, 3) := by decide +kernel
theorem dX2_put_4 : decode cX2_put 4 = .ok (.aload_n 0, 1) := by decide +kernel
theorem dX2_put_5 : decode cX2_put 5 = .ok (.getfield 15, 3) := by decide +kernel
theorem dX2_put_8 : decode cX2_put 8 = .ok (.iload_n 1, 1) := by decide +kernel
theorem dX2_put_9 : decode cX2_put 9 = .ok (.castore, 1) := by decide +kernel
theorem dX2_put_10 : decode cX2_put 10 = .ok (.aload_n 0, 1) := by decide +kernel
theorem dX2_put_11 : decode cX2_put 11 = .ok (.dup, 1) := by decide +kernel
theorem dX2_put_12 : decode cX2_put 12 = .ok (.getfield 15, 3) := by decide +kernel
theorem dX2_put_15 : decode cX2_put 15 = .ok (.iconst 1, 1) := by decide +kernel
theorem dX2_put_16 : decode cX2_put 16 = .ok (.iadd, 1) := by decide +kernel
theorem dX2_put_17 : decode cX2_put 17 = .ok (.putfield 15, 3) := by decide +kernel
theorem dX2_put_20 : decode cX2_put 20 = .ok (.return_, 1) := by decide +kernel
theorem dX2_empty_0 : decode cX2_empty 0 = .ok (.aload_n 0, 1) := by decide +kernel
theorem dX2_empty_1 : decode cX2_empty 1 = .ok (.iconst 0, 1) := by decide +kernel
theorem dX2_empty_2 : decode cX2_empty 2 = .ok (.putfield 15, 3) := by decide +kernel
theorem dX2_empty_5 : decode cX2_empty 5 = .ok (.return_, 1) := by decide +kernel
set_option maxRecDepth 20000 in
theorem ggX2_errorPlace_X2_placeBehind : GoodIn wsX2_errorPlace wsX2_placeBehind := goodIn_r _ [6, 7, 8, 5, 9, 10, 11, 12, 13, 14, 15, 16, 17, 18] (by decide +kernel) (by decide +kernel)
set_option maxRecDepth 20000 in
theorem gX2_errorPlace_X2_placeBehind : GoodIn wsX2_errorPlace (va_wsS RX2 19 yX2_placeBehind wsX2_placeBehind) := goodIn_app (goodIn_of _ (by decide +kernel)) ggX2_errorPlace_X2_placeBehind
theorem dX2_errorPlace_0 : decode cX2_errorPlace 0 = .ok (.iconst 0, 1) := by decide +kernel
theorem dX2_errorPlace_1 : decode cX2_errorPlace 1 = .ok (.istore_n 1, 1) := by decide +kernel
theorem dX2_errorPlace_2 : decode cX2_errorPlace 2 = .ok (.iconst 0, 1) := by decide +kernel
theorem dX2_errorPlace_3 : decode cX2_errorPlace 3 = .ok (.istore_n 2, 1) := by decide +kernel
theorem dX2_errorPlace_4 : decode cX2_errorPlace 4 = .ok (.iload_n 2, 1) := by decide +kernel
theorem dX2_errorPlace_5 : decode cX2_errorPlace 5 = .ok (.aload_n 0, 1) := by decide +kernel
theorem dX2_errorPlace_6 : decode cX2_errorPlace 6 = .ok (.getfield 15, 3) := by decide +kernel
theorem dX2_errorPlace_9 : decode cX2_errorPlace 9 = .ok (.if_icmp .ge 27, 3) := by decide +kernel
theorem dX2_errorPlace_12 : decode cX2_errorPlace 12 = .ok (.iload_n 1, 1) := by decide +kernel
theorem dX2_errorPlace_13 : decode cX2_errorPlace 13 = .ok (.aload_n 0, 1) := by decide +kernel
theorem dX2_errorPlace_14 : decode cX2_errorPlace 14 = .ok (.getfield 11, 3) := by decide +kernel
theorem dX2_errorPlace_17 : decode cX2_errorPlace 17 = .ok (.iload_n 2, 1) := by decide +kernel
theorem dX2_errorPlace_18 : decode cX2_errorPlace 18 = .ok (.caload, 1) := by decide +kernel
theorem dX2_errorPlace_19 : decode cX2_errorPlace 19 = .ok (.invokestatic 19, 3) := by decide +kernel
theorem dX2_errorPlace_22 : decode cX2_errorPlace 22 = .ok (.istore_n 1, 1) := by decide +kernel
theorem dX2_errorPlace_23 : decode cX2_errorPlace 23 = .ok (.iload_n 1, 1) := by decide +kernel
theorem dX2_errorPlace_24 : decode cX2_errorPlace 24 = .ok (.iconst (-1), 1) := by decide +kernel
theorem dX2_errorPlace_25 : decode cX2_errorPlace 25 = .ok (.if_icmp .ne 5, 3) := by decide +kernel
theorem dX2_errorPlace_28 : decode cX2_errorPlace 28 = .ok (.iload_n 2, 1) := by decide +kernel
theorem dX2_errorPlace_29 : decode cX2_errorPlace 29 = .ok (.ireturn, 1) := by decide +kernel
theorem dX2_errorPlace_30 : decode cX2_errorPlace 30 = .ok (.iinc 2 1, 3) := by decide +kernel
theorem dX2_errorPlace_33 : decode cX2_errorPlace 33 = .ok (.goto (-29), 3) := by decide +kernel
theorem dX2_errorPlace_36 : decode cX2_errorPlace 36 = .ok (.aload_n 0, 1) := by decide +kernel
theorem dX2_errorPlace_37 : decode cX2_errorPlace 37 = .ok (.getfield 15, 3) := by decide +kernel
theorem dX2_errorPlace_40 : decode cX2_errorPlace 40 = .ok (.ireturn, 1) := by decide +kernel
set_option maxRecDepth 20000 in
theorem ggX2_tellsWheels_X2_placeBehind : GoodIn wsX2_tellsWheels wsX2_placeBehind := goodIn_r _ [6, 7, 8, 5, 9, 10, 11, 12, 13, 14, 15, 16, 17, 18] (by decide +kernel) (by decide +kernel)
set_option maxRecDepth 20000 in
theorem gX2_tellsWheels_X2_placeBehind : GoodIn wsX2_tellsWheels (va_wsS RX2 19 yX2_placeBehind wsX2_placeBehind) := goodIn_app (goodIn_of _ (by decide +kernel)) ggX2_tellsWheels_X2_placeBehind
theorem dX2_tellsWheels_0 : decode cX2_tellsWheels 0 = .ok (.iconst 0, 1) := by decide +kernel
theorem dX2_tellsWheels_1 : decode cX2_tellsWheels 1 = .ok (.istore_n 1, 1) := by decide +kernel
theorem dX2_tellsWheels_2 : decode cX2_tellsWheels 2 = .ok (.iconst 0, 1) := by decide +kernel
theorem dX2_tellsWheels_3 : decode cX2_tellsWheels 3 = .ok (.istore_n 2, 1) := by decide +kernel
theorem dX2_tellsWheels_4 : decode cX2_tellsWheels 4 = .ok (.iload_n 2, 1) := by decide +kernel
theorem dX2_tellsWheels_5 : decode cX2_tellsWheels 5 = .ok (.aload_n 0, 1) := by decide +kernel
theorem dX2_tellsWheels_6 : decode cX2_tellsWheels 6 = .ok (.getfield 15, 3) := by decide +kernel
theorem dX2_tellsWheels_9 : decode cX2_tellsWheels 9 = .ok (.if_icmp .ge 25, 3) := by decide +kernel
theorem dX2_tellsWheels_12 : decode cX2_tellsWheels 12 = .ok (.iload_n 1, 1) := by decide +kernel
theorem dX2_tellsWheels_13 : decode cX2_tellsWheels 13 = .ok (.iconst (-1), 1) := by decide +kernel
theorem dX2_tellsWheels_14 : decode cX2_tellsWheels 14 = .ok (.if_icmp .eq 20, 3) := by decide +kernel
theorem dX2_tellsWheels_17 : decode cX2_tellsWheels 17 = .ok (.iload_n 1, 1) := by decide +kernel
theorem dX2_tellsWheels_18 : decode cX2_tellsWheels 18 = .ok (.aload_n 0, 1) := by decide +kernel
theorem dX2_tellsWheels_19 : decode cX2_tellsWheels 19 = .ok (.getfield 11, 3) := by decide +kernel
theorem dX2_tellsWheels_22 : decode cX2_tellsWheels 22 = .ok (.iload_n 2, 1) := by decide +kernel
theorem dX2_tellsWheels_23 : decode cX2_tellsWheels 23 = .ok (.caload, 1) := by decide +kernel
theorem dX2_tellsWheels_24 : decode cX2_tellsWheels 24 = .ok (.invokestatic 19, 3) := by decide +kernel
theorem dX2_tellsWheels_27 : decode cX2_tellsWheels 27 = .ok (.istore_n 1, 1) := by decide +kernel
theorem dX2_tellsWheels_28 : decode cX2_tellsWheels 28 = .ok (.iinc 2 1, 3) := by decide +kernel
theorem dX2_tellsWheels_31 : decode cX2_tellsWheels 31 = .ok (.goto (-27), 3) := by decide +kernel
theorem dX2_tellsWheels_34 : decode cX2_tellsWheels 34 = .ok (.iload_n 1, 1) := by decide +kernel
theorem dX2_tellsWheels_35 : decode cX2_tellsWheels 35 = .ok (.iconst 4, 1) := by decide +kernel
theorem dX2_tellsWheels_36 : decode cX2_tellsWheels 36 = .ok (.if_icmp .eq 8, 3) := by decide +kernel
theorem dX2_tellsWheels_39 : decode cX2_tellsWheels 39 = .ok (.iload_n 1, 1) := by decide +kernel
theorem dX2_tellsWheels_40 : decode cX2_tellsWheels 40 = .ok (.iconst 5, 1) := by decide +kernel
theorem dX2_tellsWheels_41 : decode cX2_tellsWheels 41 = .ok (.if_icmp .ne 7, 3) := by decide +kernel
theorem dX2_tellsWheels_44 : decode cX2_tellsWheels 44 = .ok (.iconst 1, 1) := by decide +kernel
theorem dX2_tellsWheels_45 : decode cX2_tellsWheels 45 = .ok (.goto 4, 3) := by decide +kernel
theorem dX2_tellsWheels_48 : decode cX2_tellsWheels 48 = .ok (.iconst 0, 1) := by decide +kernel
theorem dX2_tellsWheels_49 : decode cX2_tellsWheels 49 = .ok (.ireturn, 1) := by decide +kernel
set_option maxRecDepth 20000 in
theorem ggX2_placeBehind_X2_isLetter : GoodIn wsX2_placeBehind wsX2_isLetter := goodIn_r _ [4] (by decide +kernel) (by decide +kernel)
set_option maxRecDepth 20000 in
theorem gX2_placeBehind_X2_isLetter : GoodIn wsX2_placeBehind (va_wsS RX2 23 yX2_isLetter wsX2_isLetter) := goodIn_app (goodIn_of _ (by decide +kernel)) ggX2_placeBehind_X2_isLetter
set_option maxRecDepth 20000 in
theorem ggX2_placeBehind_X2_placeBehindFirstDigit : GoodIn wsX2_placeBehind wsX2_placeBehindFirstDigit := goodIn_r _ [7, 8, 9, 3, 10] (by decide +kernel) (by decide +kernel)
set_option maxRecDepth 20000 in
theorem gX2_placeBehind_X2_placeBehindFirstDigit : GoodIn wsX2_placeBehind (va_wsS RX2 27 yX2_placeBehindFirstDigit wsX2_placeBehindFirstDigit) := goodIn_app (goodIn_of _ (by decide +kernel)) ggX2_placeBehind_X2_placeBehindFirstDigit
set_option maxRecDepth 20000 in
theorem ggX2_placeBehind_X2_isDigit : GoodIn wsX2_placeBehind wsX2_isDigit := goodIn_r _ [10] (by decide +kernel) (by decide +kernel)
set_option maxRecDepth 20000 in
theorem gX2_placeBehind_X2_isDigit : GoodIn wsX2_placeBehind (va_wsS RX2 31 yX2_isDigit wsX2_isDigit) := goodIn_app (goodIn_of _ (by decide +kernel)) ggX2_placeBehind_X2_isDigit
set_option maxRecDepth 20000 in
theorem ggX2_placeBehind_X2_placeBehindWheel : GoodIn wsX2_placeBehind wsX2_placeBehindWheel := goodIn_r _ [13] (by decide +kernel) (by decide +kernel)
set_option maxRecDepth 20000 in
theorem gX2_placeBehind_X2_placeBehindWheel : GoodIn wsX2_placeBehind (va_wsS RX2 34 yX2_placeBehindWheel wsX2_placeBehindWheel) := goodIn_app (goodIn_of _ (by decide +kernel)) ggX2_placeBehind_X2_placeBehindWheel
theorem dX2_placeBehind_0 : decode cX2_placeBehind 0 = .ok (.iload_n 0, 1) := by decide +kernel
theorem dX2_placeBehind_1 : decode cX2_placeBehind 1 = .ok (.tableswitch 116 0 4 #[35, 48, 70, 85, 100], 35) := by decide +kernel
theorem dX2_placeBehind_36 : decode cX2_placeBehind 36 = .ok (.iload_n 1, 1) := by decide +kernel
theorem dX2_placeBehind_37 : decode cX2_placeBehind 37 = .ok (.invokestatic 23, 3) := by decide +kernel
theorem dX2_placeBehind_40 : decode cX2_placeBehind 40 = .ok (.ifCond .eq 7, 3) := by decide +kernel
theorem dX2_placeBehind_43 : decode cX2_placeBehind 43 = .ok (.iconst 1, 1) := by decide +kernel
theorem dX2_placeBehind_44 : decode cX2_placeBehind 44 = .ok (.goto 4, 3) := by decide +kernel
theorem dX2_placeBehind_47 : decode cX2_placeBehind 47 = .ok (.iconst (-1), 1) := by decide +kernel
theorem dX2_placeBehind_48 : decode cX2_placeBehind 48 = .ok (.ireturn, 1) := by decide +kernel
theorem dX2_placeBehind_49 : decode cX2_placeBehind 49 = .ok (.iload_n 1, 1) := by decide +kernel
theorem dX2_placeBehind_50 : decode cX2_placeBehind 50 = .ok (.bipush 61, 2) := by decide +kernel
theorem dX2_placeBehind_52 : decode cX2_placeBehind 52 = .ok (.if_icmp .ne 7, 3) := by decide +kernel
theorem dX2_placeBehind_55 : decode cX2_placeBehind 55 = .ok (.iconst 2, 1) := by decide +kernel
theorem dX2_placeBehind_56 : decode cX2_placeBehind 56 = .ok (.goto 14, 3) := by decide +kernel
theorem dX2_placeBehind_59 : decode cX2_placeBehind 59 = .ok (.iload_n 1, 1) := by decide +kernel
theorem dX2_placeBehind_60 : decode cX2_placeBehind 60 = .ok (.bipush 33, 2) := by decide +kernel
theorem dX2_placeBehind_62 : decode cX2_placeBehind 62 = .ok (.if_icmp .ne 7, 3) := by decide +kernel
theorem dX2_placeBehind_65 : decode cX2_placeBehind 65 = .ok (.iconst 5, 1) := by decide +kernel
theorem dX2_placeBehind_66 : decode cX2_placeBehind 66 = .ok (.goto 4, 3) := by decide +kernel
theorem dX2_placeBehind_69 : decode cX2_placeBehind 69 = .ok (.iconst (-1), 1) := by decide +kernel
theorem dX2_placeBehind_70 : decode cX2_placeBehind 70 = .ok (.ireturn, 1) := by decide +kernel
theorem dX2_placeBehind_71 : decode cX2_placeBehind 71 = .ok (.iload_n 1, 1) := by decide +kernel
theorem dX2_placeBehind_72 : decode cX2_placeBehind 72 = .ok (.bipush 45, 2) := by decide +kernel
theorem dX2_placeBehind_74 : decode cX2_placeBehind 74 = .ok (.if_icmp .ne 7, 3) := by decide +kernel
theorem dX2_placeBehind_77 : decode cX2_placeBehind 77 = .ok (.iconst 3, 1) := by decide +kernel
theorem dX2_placeBehind_78 : decode cX2_placeBehind 78 = .ok (.goto 7, 3) := by decide +kernel
theorem dX2_placeBehind_81 : decode cX2_placeBehind 81 = .ok (.iload_n 1, 1) := by decide +kernel
theorem dX2_placeBehind_82 : decode cX2_placeBehind 82 = .ok (.invokestatic 27, 3) := by decide +kernel
theorem dX2_placeBehind_85 : decode cX2_placeBehind 85 = .ok (.ireturn, 1) := by decide +kernel
theorem dX2_placeBehind_86 : decode cX2_placeBehind 86 = .ok (.iload_n 1, 1) := by decide +kernel
theorem dX2_placeBehind_87 : decode cX2_placeBehind 87 = .ok (.bipush 48, 2) := by decide +kernel
theorem dX2_placeBehind_89 : decode cX2_placeBehind 89 = .ok (.if_icmp .ne 7, 3) := by decide +kernel
theorem dX2_placeBehind_92 : decode cX2_placeBehind 92 = .ok (.iconst (-1), 1) := by decide +kernel
theorem dX2_placeBehind_93 : decode cX2_placeBehind 93 = .ok (.goto 7, 3) := by decide +kernel
theorem dX2_placeBehind_96 : decode cX2_placeBehind 96 = .ok (.iload_n 1, 1) := by decide +kernel
theorem dX2_placeBehind_97 : decode cX2_placeBehind 97 = .ok (.invokestatic 27, 3) := by decide +kernel
theorem dX2_placeBehind_100 : decode cX2_placeBehind 100 = .ok (.ireturn, 1) := by decide +kernel
theorem dX2_placeBehind_101 : decode cX2_placeBehind 101 = .ok (.iload_n 1, 1) := by decide +kernel
theorem dX2_placeBehind_102 : decode cX2_placeBehind 102 = .ok (.invokestatic 31, 3) := by decide +kernel
theorem dX2_placeBehind_105 : decode cX2_placeBehind 105 = .ok (.ifCond .eq 7, 3) := by decide +kernel
theorem dX2_placeBehind_108 : decode cX2_placeBehind 108 = .ok (.iconst 5, 1) := by decide +kernel
theorem dX2_placeBehind_109 : decode cX2_placeBehind 109 = .ok (.goto 7, 3) := by decide +kernel
theorem dX2_placeBehind_112 : decode cX2_placeBehind 112 = .ok (.iload_n 1, 1) := by decide +kernel
theorem dX2_placeBehind_113 : decode cX2_placeBehind 113 = .ok (.invokestatic 34, 3) := by decide +kernel
theorem dX2_placeBehind_116 : decode cX2_placeBehind 116 = .ok (.ireturn, 1) := by decide +kernel
theorem dX2_placeBehind_117 : decode cX2_placeBehind 117 = .ok (.iload_n 1, 1) := by decide +kernel
theorem dX2_placeBehind_118 : decode cX2_placeBehind 118 = .ok (.invokestatic 34, 3) := by decide +kernel
theorem dX2_placeBehind_121 : decode cX2_placeBehind 121 = .ok (.ireturn, 1) := by decide +kernel
set_option maxRecDepth 20000 in
theorem ggX2_placeBehindFirstDigit_X2_isDigit : GoodIn wsX2_placeBehindFirstDigit wsX2_isDigit := goodIn_r _ [4] (by decide +kernel) (by decide +kernel)
set_option maxRecDepth 20000 in
theorem gX2_placeBehindFirstDigit_X2_isDigit : GoodIn wsX2_placeBehindFirstDigit (va_wsS RX2 31 yX2_isDigit wsX2_isDigit) := goodIn_app (goodIn_of _ (by decide +kernel)) ggX2_placeBehindFirstDigit_X2_isDigit
theorem dX2_placeBehindFirstDigit_0 : decode cX2_placeBehindFirstDigit 0 = .ok (.iload_n 0, 1) := by decide +kernel
theorem dX2_placeBehindFirstDigit_1 : decode cX2_placeBehindFirstDigit 1 = .ok (.invokestatic 31, 3) := by decide +kernel
theorem dX2_placeBehindFirstDigit_4 : decode cX2_placeBehindFirstDigit 4 = .ok (.ifCond .ne 5, 3) := by decide +kernel
theorem dX2_placeBehindFirstDigit_7 : decode cX2_placeBehindFirstDigit 7 = .ok (.iconst (-1), 1) := by decide +kernel
theorem dX2_placeBehindFirstDigit_8 : decode cX2_placeBehindFirstDigit 8 = .ok (.ireturn, 1) := by decide +kernel
theorem dX2_placeBehindFirstDigit_9 : decode cX2_placeBehindFirstDigit 9 = .ok (.iload_n 0, 1) := by decide +kernel
theorem dX2_placeBehindFirstDigit_10 : decode cX2_placeBehindFirstDigit 10 = .ok (.bipush 48, 2) := by decide +kernel
theorem dX2_placeBehindFirstDigit_12 : decode cX2_placeBehindFirstDigit 12 = .ok (.if_icmp .ne 7, 3) := by decide +kernel
theorem dX2_placeBehindFirstDigit_15 : decode cX2_placeBehindFirstDigit 15 = .ok (.iconst 5, 1) := by decide +kernel
theorem dX2_placeBehindFirstDigit_16 : decode cX2_placeBehindFirstDigit 16 = .ok (.goto 4, 3) := by decide +kernel
theorem dX2_placeBehindFirstDigit_19 : decode cX2_placeBehindFirstDigit 19 = .ok (.iconst 4, 1) := by decide +kernel
theorem dX2_placeBehindFirstDigit_20 : decode cX2_placeBehindFirstDigit 20 = .ok (.ireturn, 1) := by decide +kernel
theorem dX2_placeBehindWheel_0 : decode cX2_placeBehindWheel 0 = .ok (.iload_n 0, 1) := by decide +kernel
theorem dX2_placeBehindWheel_1 : decode cX2_placeBehindWheel 1 = .ok (.bipush 59, 2) := by decide +kernel
theorem dX2_placeBehindWheel_3 : decode cX2_placeBehindWheel 3 = .ok (.if_icmp .ne 7, 3) := by decide +kernel
theorem dX2_placeBehindWheel_6 : decode cX2_placeBehindWheel 6 = .ok (.iconst 0, 1) := by decide +kernel
theorem dX2_placeBehindWheel_7 : decode cX2_placeBehindWheel 7 = .ok (.goto 4, 3) := by decide +kernel
theorem dX2_placeBehindWheel_10 : decode cX2_placeBehindWheel 10 = .ok (.iconst (-1), 1) := by decide +kernel
theorem dX2_placeBehindWheel_11 : decode cX2_placeBehindWheel 11 = .ok (.ireturn, 1) := by decide +kernel
theorem dX2_isLetter_0 : decode cX2_isLetter 0 = .ok (.iload_n 0, 1) := by decide +kernel
theorem dX2_isLetter_1 : decode cX2_isLetter 1 = .ok (.bipush 97, 2) := by decide +kernel
theorem dX2_isLetter_3 : decode cX2_isLetter 3 = .ok (.if_icmp .lt 13, 3) := by decide +kernel
theorem dX2_isLetter_6 : decode cX2_isLetter 6 = .ok (.iload_n 0, 1) := by decide +kernel
theorem dX2_isLetter_7 : decode cX2_isLetter 7 = .ok (.bipush 104, 2) := by decide +kernel
theorem dX2_isLetter_9 : decode cX2_isLetter 9 = .ok (.if_icmp .gt 7, 3) := by decide +kernel
theorem dX2_isLetter_12 : decode cX2_isLetter 12 = .ok (.iconst 1, 1) := by decide +kernel
theorem dX2_isLetter_13 : decode cX2_isLetter 13 = .ok (.goto 4, 3) := by decide +kernel
theorem dX2_isLetter_16 : decode cX2_isLetter 16 = .ok (.iconst 0, 1) := by decide +kernel
theorem dX2_isLetter_17 : decode cX2_isLetter 17 = .ok (.ireturn, 1) := by decide +kernel
theorem dX2_isDigit_0 : decode cX2_isDigit 0 = .ok (.iload_n 0, 1) := by decide +kernel
theorem dX2_isDigit_1 : decode cX2_isDigit 1 = .ok (.bipush 48, 2) := by decide +kernel
theorem dX2_isDigit_3 : decode cX2_isDigit 3 = .ok (.if_icmp .lt 13, 3) := by decide +kernel
theorem dX2_isDigit_6 : decode cX2_isDigit 6 = .ok (.iload_n 0, 1) := by decide +kernel
theorem dX2_isDigit_7 : decode cX2_isDigit 7 = .ok (.bipush 57, 2) := by decide +kernel
theorem dX2_isDigit_9 : decode cX2_isDigit 9 = .ok (.if_icmp .gt 7, 3) := by decide +kernel
theorem dX2_isDigit_12 : decode cX2_isDigit 12 = .ok (.iconst 1, 1) := by decide +kernel
theorem dX2_isDigit_13 : decode cX2_isDigit 13 = .ok (.goto 4, 3) := by decide +kernel
theorem dX2_isDigit_16 : decode cX2_isDigit 16 = .ok (.iconst 0, 1) := by decide +kernel
theorem dX2_isDigit_17 : decode cX2_isDigit 17 = .ok (.ireturn, 1) := by decide +kernel
set_option maxRecDepth 20000 in
theorem ggX2_tellTo_X2_isLetter : GoodIn wsX2_tellTo wsX2_isLetter := goodIn_r _ [6] (by decide +kernel) (by decide +kernel)
set_option maxRecDepth 20000 in
theorem gX2_tellTo_X2_isLetter : GoodIn wsX2_tellTo (va_wsS RX2 23 yX2_isLetter wsX2_isLetter) := goodIn_app (goodIn_of _ (by decide +kernel)) ggX2_tellTo_X2_isLetter
set_option maxRecDepth 20000 in
theorem ggX2_tellTo_X2_isDigit : GoodIn wsX2_tellTo wsX2_isDigit := goodIn_r _ [9] (by decide +kernel) (by decide +kernel)
set_option maxRecDepth 20000 in
theorem gX2_tellTo_X2_isDigit : GoodIn wsX2_tellTo (va_wsS RX2 31 yX2_isDigit wsX2_isDigit) := goodIn_app (goodIn_of _ (by decide +kernel)) ggX2_tellTo_X2_isDigit
theorem dX2_tellTo_0 : decode cX2_tellTo 0 = .ok (.iconst 0, 1) := by decide +kernel
theorem dX2_tellTo_1 : decode cX2_tellTo 1 = .ok (.istore_n 2, 1) := by decide +kernel
theorem dX2_tellTo_2 : decode cX2_tellTo 2 = .ok (.iload_n 2, 1) := by decide +kernel
theorem dX2_tellTo_3 : decode cX2_tellTo 3 = .ok (.bipush 8, 2) := by decide +kernel
theorem dX2_tellTo_5 : decode cX2_tellTo 5 = .ok (.if_icmp .ge 16, 3) := by decide +kernel
theorem dX2_tellTo_8 : decode cX2_tellTo 8 = .ok (.aload_n 1, 1) := by decide +kernel
theorem dX2_tellTo_9 : decode cX2_tellTo 9 = .ok (.getfield 37, 3) := by decide +kernel
theorem dX2_tellTo_12 : decode cX2_tellTo 12 = .ok (.iload_n 2, 1) := by decide +kernel
theorem dX2_tellTo_13 : decode cX2_tellTo 13 = .ok (.iconst 0, 1) := by decide +kernel
theorem dX2_tellTo_14 : decode cX2_tellTo 14 = .ok (.iastore, 1) := by decide +kernel
theorem dX2_tellTo_15 : decode cX2_tellTo 15 = .ok (.iinc 2 1, 3) := by decide +kernel
theorem dX2_tellTo_18 : decode cX2_tellTo 18 = .ok (.goto (-16), 3) := by decide +kernel
theorem dX2_tellTo_21 : decode cX2_tellTo 21 = .ok (.aload_n 1, 1) := by decide +kernel
theorem dX2_tellTo_22 : decode cX2_tellTo 22 = .ok (.iconst 0, 1) := by decide +kernel
theorem dX2_tellTo_23 : decode cX2_tellTo 23 = .ok (.putfield 43, 3) := by decide +kernel
theorem dX2_tellTo_26 : decode cX2_tellTo 26 = .ok (.iconst 0, 1) := by decide +kernel
theorem dX2_tellTo_27 : decode cX2_tellTo 27 = .ok (.istore_n 2, 1) := by decide +kernel
theorem dX2_tellTo_28 : decode cX2_tellTo 28 = .ok (.iconst 0, 1) := by decide +kernel
theorem dX2_tellTo_29 : decode cX2_tellTo 29 = .ok (.istore_n 3, 1) := by decide +kernel
theorem dX2_tellTo_30 : decode cX2_tellTo 30 = .ok (.iconst 0, 1) := by decide +kernel
theorem dX2_tellTo_31 : decode cX2_tellTo 31 = .ok (.istore 4, 2) := by decide +kernel
theorem dX2_tellTo_33 : decode cX2_tellTo 33 = .ok (.iload 4, 2) := by decide +kernel
theorem dX2_tellTo_35 : decode cX2_tellTo 35 = .ok (.aload_n 0, 1) := by decide +kernel
theorem dX2_tellTo_36 : decode cX2_tellTo 36 = .ok (.getfield 15, 3) := by decide +kernel
theorem dX2_tellTo_39 : decode cX2_tellTo 39 = .ok (.if_icmp .ge 131, 3) := by decide +kernel
theorem dX2_tellTo_42 : decode cX2_tellTo 42 = .ok (.aload_n 0, 1) := by decide +kernel
theorem dX2_tellTo_43 : decode cX2_tellTo 43 = .ok (.getfield 11, 3) := by decide +kernel
theorem dX2_tellTo_46 : decode cX2_tellTo 46 = .ok (.iload 4, 2) := by decide +kernel
theorem dX2_tellTo_48 : decode cX2_tellTo 48 = .ok (.caload, 1) := by decide +kernel
theorem dX2_tellTo_49 : decode cX2_tellTo 49 = .ok (.istore 5, 2) := by decide +kernel
theorem dX2_tellTo_51 : decode cX2_tellTo 51 = .ok (.iload 5, 2) := by decide +kernel
theorem dX2_tellTo_53 : decode cX2_tellTo 53 = .ok (.invokestatic 23, 3) := by decide +kernel
theorem dX2_tellTo_56 : decode cX2_tellTo 56 = .ok (.ifCond .eq 12, 3) := by decide +kernel
theorem dX2_tellTo_59 : decode cX2_tellTo 59 = .ok (.iload 5, 2) := by decide +kernel
theorem dX2_tellTo_61 : decode cX2_tellTo 61 = .ok (.bipush 97, 2) := by decide +kernel
theorem dX2_tellTo_63 : decode cX2_tellTo 63 = .ok (.isub, 1) := by decide +kernel
theorem dX2_tellTo_64 : decode cX2_tellTo 64 = .ok (.istore_n 2, 1) := by decide +kernel
theorem dX2_tellTo_65 : decode cX2_tellTo 65 = .ok (.goto 99, 3) := by decide +kernel
theorem dX2_tellTo_68 : decode cX2_tellTo 68 = .ok (.iload 5, 2) := by decide +kernel
theorem dX2_tellTo_70 : decode cX2_tellTo 70 = .ok (.bipush 33, 2) := by decide +kernel
theorem dX2_tellTo_72 : decode cX2_tellTo 72 = .ok (.if_icmp .ne 18, 3) := by decide +kernel
theorem dX2_tellTo_75 : decode cX2_tellTo 75 = .ok (.aload_n 1, 1) := by decide +kernel
theorem dX2_tellTo_76 : decode cX2_tellTo 76 = .ok (.dup, 1) := by decide +kernel
theorem dX2_tellTo_77 : decode cX2_tellTo 77 = .ok (.getfield 43, 3) := by decide +kernel
theorem dX2_tellTo_80 : decode cX2_tellTo 80 = .ok (.iconst 1, 1) := by decide +kernel
theorem dX2_tellTo_81 : decode cX2_tellTo 81 = .ok (.iload_n 2, 1) := by decide +kernel
theorem dX2_tellTo_82 : decode cX2_tellTo 82 = .ok (.ishl, 1) := by decide +kernel
theorem dX2_tellTo_83 : decode cX2_tellTo 83 = .ok (.ior, 1) := by decide +kernel
theorem dX2_tellTo_84 : decode cX2_tellTo 84 = .ok (.putfield 43, 3) := by decide +kernel
theorem dX2_tellTo_87 : decode cX2_tellTo 87 = .ok (.goto 77, 3) := by decide +kernel
theorem dX2_tellTo_90 : decode cX2_tellTo 90 = .ok (.iload 5, 2) := by decide +kernel
theorem dX2_tellTo_92 : decode cX2_tellTo 92 = .ok (.bipush 61, 2) := by decide +kernel
theorem dX2_tellTo_94 : decode cX2_tellTo 94 = .ok (.if_icmp .ne 15, 3) := by decide +kernel
theorem dX2_tellTo_97 : decode cX2_tellTo 97 = .ok (.aload_n 1, 1) := by decide +kernel
theorem dX2_tellTo_98 : decode cX2_tellTo 98 = .ok (.getfield 37, 3) := by decide +kernel
theorem dX2_tellTo_101 : decode cX2_tellTo 101 = .ok (.iload_n 2, 1) := by decide +kernel
theorem dX2_tellTo_102 : decode cX2_tellTo 102 = .ok (.iconst 0, 1) := by decide +kernel
theorem dX2_tellTo_103 : decode cX2_tellTo 103 = .ok (.iastore, 1) := by decide +kernel
theorem dX2_tellTo_104 : decode cX2_tellTo 104 = .ok (.iconst 0, 1) := by decide +kernel
theorem dX2_tellTo_105 : decode cX2_tellTo 105 = .ok (.istore_n 3, 1) := by decide +kernel
theorem dX2_tellTo_106 : decode cX2_tellTo 106 = .ok (.goto 58, 3) := by decide +kernel
theorem dX2_tellTo_109 : decode cX2_tellTo 109 = .ok (.iload 5, 2) := by decide +kernel
theorem dX2_tellTo_111 : decode cX2_tellTo 111 = .ok (.bipush 45, 2) := by decide +kernel
theorem dX2_tellTo_113 : decode cX2_tellTo 113 = .ok (.if_icmp .ne 8, 3) := by decide +kernel
theorem dX2_tellTo_116 : decode cX2_tellTo 116 = .ok (.iconst 1, 1) := by decide +kernel
theorem dX2_tellTo_117 : decode cX2_tellTo 117 = .ok (.istore_n 3, 1) := by decide +kernel
theorem dX2_tellTo_118 : decode cX2_tellTo 118 = .ok (.goto 46, 3) := by decide +kernel
theorem dX2_tellTo_121 : decode cX2_tellTo 121 = .ok (.iload 5, 2) := by decide +kernel
theorem dX2_tellTo_123 : decode cX2_tellTo 123 = .ok (.invokestatic 31, 3) := by decide +kernel
theorem dX2_tellTo_126 : decode cX2_tellTo 126 = .ok (.ifCond .eq 38, 3) := by decide +kernel
theorem dX2_tellTo_129 : decode cX2_tellTo 129 = .ok (.iload 5, 2) := by decide +kernel
theorem dX2_tellTo_131 : decode cX2_tellTo 131 = .ok (.bipush 48, 2) := by decide +kernel
theorem dX2_tellTo_133 : decode cX2_tellTo 133 = .ok (.isub, 1) := by decide +kernel
theorem dX2_tellTo_134 : decode cX2_tellTo 134 = .ok (.istore 6, 2) := by decide +kernel
theorem dX2_tellTo_136 : decode cX2_tellTo 136 = .ok (.aload_n 1, 1) := by decide +kernel
theorem dX2_tellTo_137 : decode cX2_tellTo 137 = .ok (.getfield 37, 3) := by decide +kernel
theorem dX2_tellTo_140 : decode cX2_tellTo 140 = .ok (.iload_n 2, 1) := by decide +kernel
theorem dX2_tellTo_141 : decode cX2_tellTo 141 = .ok (.aload_n 1, 1) := by decide +kernel
theorem dX2_tellTo_142 : decode cX2_tellTo 142 = .ok (.getfield 37, 3) := by decide +kernel
theorem dX2_tellTo_145 : decode cX2_tellTo 145 = .ok (.iload_n 2, 1) := by decide +kernel
theorem dX2_tellTo_146 : decode cX2_tellTo 146 = .ok (.iaload, 1) := by decide +kernel
theorem dX2_tellTo_147 : decode cX2_tellTo 147 = .ok (.bipush 10, 2) := by decide +kernel
theorem dX2_tellTo_149 : decode cX2_tellTo 149 = .ok (.imul, 1) := by decide +kernel
theorem dX2_tellTo_150 : decode cX2_tellTo 150 = .ok (.iload_n 3, 1) := by decide +kernel
theorem dX2_tellTo_151 : decode cX2_tellTo 151 = .ok (.ifCond .eq 9, 3) := by decide +kernel
theorem dX2_tellTo_154 : decode cX2_tellTo 154 = .ok (.iload 6, 2) := by decide +kernel
theorem dX2_tellTo_156 : decode cX2_tellTo 156 = .ok (.ineg, 1) := by decide +kernel
theorem dX2_tellTo_157 : decode cX2_tellTo 157 = .ok (.goto 5, 3) := by decide +kernel
theorem dX2_tellTo_160 : decode cX2_tellTo 160 = .ok (.iload 6, 2) := by decide +kernel
theorem dX2_tellTo_162 : decode cX2_tellTo 162 = .ok (.iadd, 1) := by decide +kernel
theorem dX2_tellTo_163 : decode cX2_tellTo 163 = .ok (.iastore, 1) := by decide +kernel
theorem dX2_tellTo_164 : decode cX2_tellTo 164 = .ok (.iinc 4 1, 3) := by decide +kernel
theorem dX2_tellTo_167 : decode cX2_tellTo 167 = .ok (.goto (-134), 3) := by decide +kernel
theorem dX2_tellTo_170 : decode cX2_tellTo 170 = .ok (.return_, 1) := by decide +kernel

theorem dX4_init_0 : decode cX4_init 0 = .ok (.aload_n 0, 1) := by decide +kernel
theorem dX4_init_1 : decode cX4_init 1 = .ok (.invokespecial 1, 3) := by decide +kernel
theorem dX4_init_4 : decode cX4_init 4 = .ok (.aload_n 0, 1) := by decide +kernel
theorem dX4_init_5 : decode cX4_init 5 = .ok (.bipush 25, 2) := by decide +kernel
theorem dX4_init_7 : decode cX4_init 7 = .ok (.newarray .int, 2) := by decide +kernel
theorem dX4_init_9 : decode cX4_init 9 = .ok (.putfield 7, 3) := by decide +kernel
theorem dX4_init_12 : decode cX4_init 12 = .ok (.aload_n 0, 1) := by decide +kernel
theorem dX4_init_13 : decode cX4_init 13 = .ok (.sipush 150, 3) := by decide +kernel
theorem dX4_init_16 : decode cX4_init 16 = .ok (.newarray .int, 2) := by decide +kernel
theorem dX4_init_18 : decode cX4_init 18 = .ok (.putfield 13, 3) := by decide +kernel
theorem dX4_init_21 : decode cX4_init 21 = .ok (.aload_n 0, 1) := by decide +kernel
theorem dX4_init_22 : decode cX4_init 22 = .ok (.bipush 50, 2) := by decide +kernel
theorem dX4_init_24 : decode cX4_init 24 = .ok (.newarray .int, 2) := by decide +kernel
theorem dX4_init_26 : decode cX4_init 26 = .ok (.putfield 16, 3) := by decide +kernel
theorem dX4_init_29 : decode cX4_init 29 = .ok (.aload_n 0, 1) := by decide +kernel
theorem dX4_init_30 : decode cX4_init 30 = .ok (.iconst 2, 1) := by decide +kernel
theorem dX4_init_31 : decode cX4_init 31 = .ok (.newarray .boolean, 2) := by decide +kernel
theorem dX4_init_33 : decode cX4_init 33 = .ok (.putfield 19, 3) := by decide +kernel
theorem dX4_init_36 : decode cX4_init 36 = .ok (.aload_n 0, 1) := by decide +kernel
theorem dX4_init_37 : decode cX4_init 37 = .ok (.bipush 60, 2) := by decide +kernel
theorem dX4_init_39 : decode cX4_init 39 = .ok (.newarray .int, 2) := by decide +kernel
theorem dX4_init_41 : decode cX4_init 41 = .ok (.putfield 23, 3) := by decide +kernel
theorem dX4_init_44 : decode cX4_init 44 = .ok (.aload_n 0, 1) := by decide +kernel
theorem dX4_init_45 : decode cX4_init 45 = .ok (.bipush 8, 2) := by decide +kernel
theorem dX4_init_47 : decode cX4_init 47 = .ok (.newarray .boolean, 2) := by decide +kernel
theorem dX4_init_49 : decode cX4_init 49 = .ok (.putfield 26, 3) := by decide +kernel
theorem dX4_init_52 : decode cX4_init 52 = .ok (.aload_n 0, 1) := by decide +kernel
theorem dX4_init_53 : decode cX4_init 53 = .ok (.getfield 7, 3) := by decide +kernel
theorem dX4_init_56 : decode cX4_init 56 = .ok (.bipush 24, 2) := by decide +kernel
theorem dX4_init_58 : decode cX4_init 58 = .ok (.iconst 0, 1) := by decide +kernel
theorem dX4_init_59 : decode cX4_init 59 = .ok (.iastore, 1) := by decide +kernel
theorem dX4_init_60 : decode cX4_init 60 = .ok (.return_, 1) := by decide +kernel
theorem dX4_thrown_0 : decode cX4_thrown 0 = .ok (.aload_n 0, 1) := by decide +kernel
theorem dX4_thrown_1 : decode cX4_thrown 1 = .ok (.getfield 29, 3) := by decide +kernel
theorem dX4_thrown_4 : decode cX4_thrown 4 = .ok (.ireturn, 1) := by decide +kernel
theorem dX4_in_0 : decode cX4_in 0 = .ok (.iload_n 0, 1) := by decide +kernel
theorem dX4_in_1 : decode cX4_in 1 = .ok (.iload_n 1, 1) := by decide +kernel
theorem dX4_in_2 : decode cX4_in 2 = .ok (.if_icmp .lt 12, 3) := by decide +kernel
theorem dX4_in_5 : decode cX4_in 5 = .ok (.iload_n 0, 1) := by decide +kernel
theorem dX4_in_6 : decode cX4_in 6 = .ok (.iload_n 2, 1) := by decide +kernel
theorem dX4_in_7 : decode cX4_in 7 = .ok (.if_icmp .gt 7, 3) := by decide +kernel
theorem dX4_in_10 : decode cX4_in 10 = .ok (.iconst 1, 1) := by decide +kernel
theorem dX4_in_11 : decode cX4_in 11 = .ok (.goto 4, 3) := by decide +kernel
theorem dX4_in_14 : decode cX4_in 14 = .ok (.iconst 0, 1) := by decide +kernel
theorem dX4_in_15 : decode cX4_in 15 = .ok (.ireturn, 1) := by decide +kernel
set_option maxRecDepth 20000 in
theorem ggX4_isOne_X4_in : GoodIn wsX4_isOne wsX4_in := goodIn_r _ [4] (by decide +kernel) (by decide +kernel)
set_option maxRecDepth 20000 in
theorem gX4_isOne_X4_in : GoodIn wsX4_isOne (va_wsS RX4 33 yX4_in wsX4_in) := goodIn_app (goodIn_of _ (by decide +kernel)) ggX4_isOne_X4_in
theorem dX4_isOne_0 : decode cX4_isOne 0 = .ok (.iload_n 0, 1) := by decide +kernel
theorem dX4_isOne_1 : decode cX4_isOne 1 = .ok (.iconst 0, 1) := by decide +kernel
theorem dX4_isOne_2 : decode cX4_isOne 2 = .ok (.bipush 7, 2) := by decide +kernel
theorem dX4_isOne_4 : decode cX4_isOne 4 = .ok (.invokestatic 33, 3) := by decide +kernel
theorem dX4_isOne_7 : decode cX4_isOne 7 = .ok (.ireturn, 1) := by decide +kernel
theorem dX4_amount_0 : decode cX4_amount 0 = .ok (.iload_n 0, 1) := by decide +kernel
theorem dX4_amount_1 : decode cX4_amount 1 = .ok (.ifCond .ge 8, 3) := by decide +kernel
theorem dX4_amount_4 : decode cX4_amount 4 = .ok (.iload_n 0, 1) := by decide +kernel
theorem dX4_amount_5 : decode cX4_amount 5 = .ok (.ineg, 1) := by decide +kernel
theorem dX4_amount_6 : decode cX4_amount 6 = .ok (.goto 4, 3) := by decide +kernel
theorem dX4_amount_9 : decode cX4_amount 9 = .ok (.iload_n 0, 1) := by decide +kernel
theorem dX4_amount_10 : decode cX4_amount 10 = .ok (.ireturn, 1) := by decide +kernel
theorem dX4_wave_0 : decode cX4_wave 0 = .ok (.iload_n 0, 1) := by decide +kernel
theorem dX4_wave_1 : decode cX4_wave 1 = .ok (.iload_n 1, 1) := by decide +kernel
theorem dX4_wave_2 : decode cX4_wave 2 = .ok (.iand, 1) := by decide +kernel
theorem dX4_wave_3 : decode cX4_wave 3 = .ok (.istore_n 2, 1) := by decide +kernel
theorem dX4_wave_4 : decode cX4_wave 4 = .ok (.iload_n 2, 1) := by decide +kernel
theorem dX4_wave_5 : decode cX4_wave 5 = .ok (.iload_n 2, 1) := by decide +kernel
theorem dX4_wave_6 : decode cX4_wave 6 = .ok (.iconst 1, 1) := by decide +kernel
theorem dX4_wave_7 : decode cX4_wave 7 = .ok (.ishr, 1) := by decide +kernel
theorem dX4_wave_8 : decode cX4_wave 8 = .ok (.ixor, 1) := by decide +kernel
theorem dX4_wave_9 : decode cX4_wave 9 = .ok (.iload_n 2, 1) := by decide +kernel
theorem dX4_wave_10 : decode cX4_wave 10 = .ok (.iconst 2, 1) := by decide +kernel
theorem dX4_wave_11 : decode cX4_wave 11 = .ok (.ishr, 1) := by decide +kernel
theorem dX4_wave_12 : decode cX4_wave 12 = .ok (.ixor, 1) := by decide +kernel
theorem dX4_wave_13 : decode cX4_wave 13 = .ok (.iconst 1, 1) := by decide +kernel
theorem dX4_wave_14 : decode cX4_wave 14 = .ok (.iand, 1) := by decide +kernel
theorem dX4_wave_15 : decode cX4_wave 15 = .ok (.ifCond .ne 7, 3) := by decide +kernel
theorem dX4_wave_18 : decode cX4_wave 18 = .ok (.iconst 1, 1) := by decide +kernel
theorem dX4_wave_19 : decode cX4_wave 19 = .ok (.goto 4, 3) := by decide +kernel
theorem dX4_wave_22 : decode cX4_wave 22 = .ok (.iconst (-1), 1) := by decide +kernel
theorem dX4_wave_23 : decode cX4_wave 23 = .ok (.ireturn, 1) := by decide +kernel
theorem dX4_used_0 : decode cX4_used 0 = .ok (.aload_n 0, 1) := by decide +kernel
theorem dX4_used_1 : decode cX4_used 1 = .ok (.getfield 7, 3) := by decide +kernel
theorem dX4_used_4 : decode cX4_used 4 = .ok (.bipush 8, 2) := by decide +kernel
theorem dX4_used_6 : decode cX4_used 6 = .ok (.iload_n 1, 1) := by decide +kernel
theorem dX4_used_7 : decode cX4_used 7 = .ok (.iadd, 1) := by decide +kernel
theorem dX4_used_8 : decode cX4_used 8 = .ok (.iaload, 1) := by decide +kernel
theorem dX4_used_9 : decode cX4_used 9 = .ok (.iconst 1, 1) := by decide +kernel
theorem dX4_used_10 : decode cX4_used 10 = .ok (.if_icmp .ne 7, 3) := by decide +kernel
theorem dX4_used_13 : decode cX4_used 13 = .ok (.iconst 0, 1) := by decide +kernel
theorem dX4_used_14 : decode cX4_used 14 = .ok (.goto 9, 3) := by decide +kernel
theorem dX4_used_17 : decode cX4_used 17 = .ok (.aload_n 0, 1) := by decide +kernel
theorem dX4_used_18 : decode cX4_used 18 = .ok (.getfield 7, 3) := by decide +kernel
theorem dX4_used_21 : decode cX4_used 21 = .ok (.iload_n 1, 1) := by decide +kernel
theorem dX4_used_22 : decode cX4_used 22 = .ok (.iaload, 1) := by decide +kernel
theorem dX4_used_23 : decode cX4_used 23 = .ok (.ireturn, 1) := by decide +kernel
set_option maxRecDepth 20000 in
theorem ggX4_traceAt_X4_used : GoodIn wsX4_traceAt wsX4_used := goodIn_r _ [5, 6, 10, 11, 12, 13, 14, 15, 16, 17, 18, 19, 20, 21] (by decide +kernel) (by decide +kernel)
set_option maxRecDepth 20000 in
theorem gX4_traceAt_X4_used : GoodIn wsX4_traceAt (wsV RX4 37 RX4 yX4_used wsX4_used) := goodIn_app (goodIn_of _ (by decide +kernel)) ggX4_traceAt_X4_used
set_option maxRecDepth 20000 in
theorem ggX4_traceAt_X4_wave : GoodIn wsX4_traceAt wsX4_wave := goodIn_r _ [9] (by decide +kernel) (by decide +kernel)
set_option maxRecDepth 20000 in
theorem gX4_traceAt_X4_wave : GoodIn wsX4_traceAt (va_wsS RX4 41 yX4_wave wsX4_wave) := goodIn_app (goodIn_of _ (by decide +kernel)) ggX4_traceAt_X4_wave
theorem dX4_traceAt_0 : decode cX4_traceAt 0 = .ok (.iconst 0, 1) := by decide +kernel
theorem dX4_traceAt_1 : decode cX4_traceAt 1 = .ok (.istore_n 2, 1) := by decide +kernel
theorem dX4_traceAt_2 : decode cX4_traceAt 2 = .ok (.iconst 0, 1) := by decide +kernel
theorem dX4_traceAt_3 : decode cX4_traceAt 3 = .ok (.istore_n 3, 1) := by decide +kernel
theorem dX4_traceAt_4 : decode cX4_traceAt 4 = .ok (.iload_n 3, 1) := by decide +kernel
theorem dX4_traceAt_5 : decode cX4_traceAt 5 = .ok (.bipush 8, 2) := by decide +kernel
theorem dX4_traceAt_7 : decode cX4_traceAt 7 = .ok (.if_icmp .ge 23, 3) := by decide +kernel
theorem dX4_traceAt_10 : decode cX4_traceAt 10 = .ok (.iload_n 2, 1) := by decide +kernel
theorem dX4_traceAt_11 : decode cX4_traceAt 11 = .ok (.aload_n 0, 1) := by decide +kernel
theorem dX4_traceAt_12 : decode cX4_traceAt 12 = .ok (.iload_n 3, 1) := by decide +kernel
theorem dX4_traceAt_13 : decode cX4_traceAt 13 = .ok (.invokevirtual 37, 3) := by decide +kernel
theorem dX4_traceAt_16 : decode cX4_traceAt 16 = .ok (.iload_n 3, 1) := by decide +kernel
theorem dX4_traceAt_17 : decode cX4_traceAt 17 = .ok (.iload_n 1, 1) := by decide +kernel
theorem dX4_traceAt_18 : decode cX4_traceAt 18 = .ok (.invokestatic 41, 3) := by decide +kernel
theorem dX4_traceAt_21 : decode cX4_traceAt 21 = .ok (.imul, 1) := by decide +kernel
theorem dX4_traceAt_22 : decode cX4_traceAt 22 = .ok (.iadd, 1) := by decide +kernel
theorem dX4_traceAt_23 : decode cX4_traceAt 23 = .ok (.istore_n 2, 1) := by decide +kernel
theorem dX4_traceAt_24 : decode cX4_traceAt 24 = .ok (.iinc 3 1, 3) := by decide +kernel
theorem dX4_traceAt_27 : decode cX4_traceAt 27 = .ok (.goto (-23), 3) := by decide +kernel
theorem dX4_traceAt_30 : decode cX4_traceAt 30 = .ok (.iload_n 2, 1) := by decide +kernel
theorem dX4_traceAt_31 : decode cX4_traceAt 31 = .ok (.ireturn, 1) := by decide +kernel
set_option maxRecDepth 20000 in
theorem ggX4_difference_X4_traceAt : GoodIn wsX4_difference wsX4_traceAt := goodIn_r _ [6, 7, 8, 9, 5, 10, 1, 11, 12, 13, 14, 15, 16, 17, 18, 19, 20, 21, 22, 23, 24, 25] (by decide +kernel) (by decide +kernel)
set_option maxRecDepth 20000 in
theorem gX4_difference_X4_traceAt : GoodIn wsX4_difference (wsV RX4 45 RX4 yX4_traceAt wsX4_traceAt) := goodIn_app (goodIn_of _ (by decide +kernel)) ggX4_difference_X4_traceAt
theorem dX4_difference_0 : decode cX4_difference 0 = .ok (.aload_n 0, 1) := by decide +kernel
theorem dX4_difference_1 : decode cX4_difference 1 = .ok (.getfield 7, 3) := by decide +kernel
theorem dX4_difference_4 : decode cX4_difference 4 = .ok (.bipush 16, 2) := by decide +kernel
theorem dX4_difference_6 : decode cX4_difference 6 = .ok (.iload_n 1, 1) := by decide +kernel
theorem dX4_difference_7 : decode cX4_difference 7 = .ok (.iadd, 1) := by decide +kernel
theorem dX4_difference_8 : decode cX4_difference 8 = .ok (.iaload, 1) := by decide +kernel
theorem dX4_difference_9 : decode cX4_difference 9 = .ok (.aload_n 0, 1) := by decide +kernel
theorem dX4_difference_10 : decode cX4_difference 10 = .ok (.iload_n 1, 1) := by decide +kernel
theorem dX4_difference_11 : decode cX4_difference 11 = .ok (.invokevirtual 45, 3) := by decide +kernel
theorem dX4_difference_14 : decode cX4_difference 14 = .ok (.isub, 1) := by decide +kernel
theorem dX4_difference_15 : decode cX4_difference 15 = .ok (.ireturn, 1) := by decide +kernel
set_option maxRecDepth 20000 in
theorem ggX4_jump_X4_traceAt : GoodIn wsX4_jump wsX4_traceAt := goodIn_r _ [5, 6, 7, 8, 4, 9, 10, 11, 12, 13, 14, 15, 16, 17, 18, 19, 20, 21, 22, 23, 24, 25] (by decide +kernel) (by decide +kernel)
set_option maxRecDepth 20000 in
theorem gX4_jump_X4_traceAt : GoodIn wsX4_jump (wsV RX4 45 RX4 yX4_traceAt wsX4_traceAt) := goodIn_app (goodIn_of _ (by decide +kernel)) ggX4_jump_X4_traceAt
theorem dX4_jump_0 : decode cX4_jump 0 = .ok (.aload_n 0, 1) := by decide +kernel
theorem dX4_jump_1 : decode cX4_jump 1 = .ok (.iload_n 1, 1) := by decide +kernel
theorem dX4_jump_2 : decode cX4_jump 2 = .ok (.iconst 1, 1) := by decide +kernel
theorem dX4_jump_3 : decode cX4_jump 3 = .ok (.iadd, 1) := by decide +kernel
theorem dX4_jump_4 : decode cX4_jump 4 = .ok (.bipush 8, 2) := by decide +kernel
theorem dX4_jump_6 : decode cX4_jump 6 = .ok (.irem, 1) := by decide +kernel
theorem dX4_jump_7 : decode cX4_jump 7 = .ok (.invokevirtual 45, 3) := by decide +kernel
theorem dX4_jump_10 : decode cX4_jump 10 = .ok (.aload_n 0, 1) := by decide +kernel
theorem dX4_jump_11 : decode cX4_jump 11 = .ok (.iload_n 1, 1) := by decide +kernel
theorem dX4_jump_12 : decode cX4_jump 12 = .ok (.invokevirtual 45, 3) := by decide +kernel
theorem dX4_jump_15 : decode cX4_jump 15 = .ok (.isub, 1) := by decide +kernel
theorem dX4_jump_16 : decode cX4_jump 16 = .ok (.ireturn, 1) := by decide +kernel
set_option maxRecDepth 20000 in
theorem ggX4_ofPattern_X4_wave : GoodIn wsX4_ofPattern wsX4_wave := goodIn_r _ [5] (by decide +kernel) (by decide +kernel)
set_option maxRecDepth 20000 in
theorem gX4_ofPattern_X4_wave : GoodIn wsX4_ofPattern (va_wsS RX4 41 yX4_wave wsX4_wave) := goodIn_app (goodIn_of _ (by decide +kernel)) ggX4_ofPattern_X4_wave
theorem dX4_ofPattern_0 : decode cX4_ofPattern 0 = .ok (.iconst 0, 1) := by decide +kernel
theorem dX4_ofPattern_1 : decode cX4_ofPattern 1 = .ok (.istore_n 2, 1) := by decide +kernel
theorem dX4_ofPattern_2 : decode cX4_ofPattern 2 = .ok (.iconst 0, 1) := by decide +kernel
theorem dX4_ofPattern_3 : decode cX4_ofPattern 3 = .ok (.istore_n 3, 1) := by decide +kernel
theorem dX4_ofPattern_4 : decode cX4_ofPattern 4 = .ok (.iload_n 3, 1) := by decide +kernel
theorem dX4_ofPattern_5 : decode cX4_ofPattern 5 = .ok (.bipush 8, 2) := by decide +kernel
theorem dX4_ofPattern_7 : decode cX4_ofPattern 7 = .ok (.if_icmp .ge 27, 3) := by decide +kernel
theorem dX4_ofPattern_10 : decode cX4_ofPattern 10 = .ok (.iload_n 2, 1) := by decide +kernel
theorem dX4_ofPattern_11 : decode cX4_ofPattern 11 = .ok (.aload_n 0, 1) := by decide +kernel
theorem dX4_ofPattern_12 : decode cX4_ofPattern 12 = .ok (.getfield 7, 3) := by decide +kernel
theorem dX4_ofPattern_15 : decode cX4_ofPattern 15 = .ok (.bipush 16, 2) := by decide +kernel
theorem dX4_ofPattern_17 : decode cX4_ofPattern 17 = .ok (.iload_n 3, 1) := by decide +kernel
theorem dX4_ofPattern_18 : decode cX4_ofPattern 18 = .ok (.iadd, 1) := by decide +kernel
theorem dX4_ofPattern_19 : decode cX4_ofPattern 19 = .ok (.iaload, 1) := by decide +kernel
theorem dX4_ofPattern_20 : decode cX4_ofPattern 20 = .ok (.iload_n 1, 1) := by decide +kernel
theorem dX4_ofPattern_21 : decode cX4_ofPattern 21 = .ok (.iload_n 3, 1) := by decide +kernel
theorem dX4_ofPattern_22 : decode cX4_ofPattern 22 = .ok (.invokestatic 41, 3) := by decide +kernel
theorem dX4_ofPattern_25 : decode cX4_ofPattern 25 = .ok (.imul, 1) := by decide +kernel
theorem dX4_ofPattern_26 : decode cX4_ofPattern 26 = .ok (.iadd, 1) := by decide +kernel
theorem dX4_ofPattern_27 : decode cX4_ofPattern 27 = .ok (.istore_n 2, 1) := by decide +kernel
theorem dX4_ofPattern_28 : decode cX4_ofPattern 28 = .ok (.iinc 3 1, 3) := by decide +kernel
theorem dX4_ofPattern_31 : decode cX4_ofPattern 31 = .ok (.goto (-27), 3) := by decide +kernel
theorem dX4_ofPattern_34 : decode cX4_ofPattern 34 = .ok (.iload_n 2, 1) := by decide +kernel
theorem dX4_ofPattern_35 : decode cX4_ofPattern 35 = .ok (.iconst 3, 1) := by decide +kernel
theorem dX4_ofPattern_36 : decode cX4_ofPattern 36 = .ok (.ishr, 1) := by decide +kernel
theorem dX4_ofPattern_37 : decode cX4_ofPattern 37 = .ok (.ireturn, 1) := by decide +kernel
theorem dX4_turning_0 : decode cX4_turning 0 = .ok (.iconst 0, 1) := by decide +kernel
theorem dX4_turning_1 : decode cX4_turning 1 = .ok (.istore_n 1, 1) := by decide +kernel
theorem dX4_turning_2 : decode cX4_turning 2 = .ok (.iconst 0, 1) := by decide +kernel
theorem dX4_turning_3 : decode cX4_turning 3 = .ok (.istore_n 2, 1) := by decide +kernel
theorem dX4_turning_4 : decode cX4_turning 4 = .ok (.iload_n 2, 1) := by decide +kernel
theorem dX4_turning_5 : decode cX4_turning 5 = .ok (.bipush 8, 2) := by decide +kernel
theorem dX4_turning_7 : decode cX4_turning 7 = .ok (.if_icmp .ge 26, 3) := by decide +kernel
theorem dX4_turning_10 : decode cX4_turning 10 = .ok (.iload_n 1, 1) := by decide +kernel
theorem dX4_turning_11 : decode cX4_turning 11 = .ok (.aload_n 0, 1) := by decide +kernel
theorem dX4_turning_12 : decode cX4_turning 12 = .ok (.getfield 7, 3) := by decide +kernel
theorem dX4_turning_15 : decode cX4_turning 15 = .ok (.iload_n 2, 1) := by decide +kernel
theorem dX4_turning_16 : decode cX4_turning 16 = .ok (.iaload, 1) := by decide +kernel
theorem dX4_turning_17 : decode cX4_turning 17 = .ok (.ifCond .eq 7, 3) := by decide +kernel
theorem dX4_turning_20 : decode cX4_turning 20 = .ok (.iconst 1, 1) := by decide +kernel
theorem dX4_turning_21 : decode cX4_turning 21 = .ok (.goto 4, 3) := by decide +kernel
theorem dX4_turning_24 : decode cX4_turning 24 = .ok (.iconst 0, 1) := by decide +kernel
theorem dX4_turning_25 : decode cX4_turning 25 = .ok (.iadd, 1) := by decide +kernel
theorem dX4_turning_26 : decode cX4_turning 26 = .ok (.istore_n 1, 1) := by decide +kernel
theorem dX4_turning_27 : decode cX4_turning 27 = .ok (.iinc 2 1, 3) := by decide +kernel
theorem dX4_turning_30 : decode cX4_turning 30 = .ok (.goto (-26), 3) := by decide +kernel
theorem dX4_turning_33 : decode cX4_turning 33 = .ok (.iload_n 1, 1) := by decide +kernel
theorem dX4_turning_34 : decode cX4_turning 34 = .ok (.ireturn, 1) := by decide +kernel
theorem dX4_record_0 : decode cX4_record 0 = .ok (.aload_n 0, 1) := by decide +kernel
theorem dX4_record_1 : decode cX4_record 1 = .ok (.getfield 48, 3) := by decide +kernel
theorem dX4_record_4 : decode cX4_record 4 = .ok (.bipush 6, 2) := by decide +kernel
theorem dX4_record_6 : decode cX4_record 6 = .ok (.if_icmp .ne 42, 3) := by decide +kernel
theorem dX4_record_9 : decode cX4_record 9 = .ok (.iconst 0, 1) := by decide +kernel
theorem dX4_record_10 : decode cX4_record 10 = .ok (.istore_n 1, 1) := by decide +kernel
theorem dX4_record_11 : decode cX4_record 11 = .ok (.iload_n 1, 1) := by decide +kernel
theorem dX4_record_12 : decode cX4_record 12 = .ok (.bipush 125, 2) := by decide +kernel
theorem dX4_record_14 : decode cX4_record 14 = .ok (.if_icmp .ge 24, 3) := by decide +kernel
theorem dX4_record_17 : decode cX4_record 17 = .ok (.aload_n 0, 1) := by decide +kernel
theorem dX4_record_18 : decode cX4_record 18 = .ok (.getfield 13, 3) := by decide +kernel
theorem dX4_record_21 : decode cX4_record 21 = .ok (.iload_n 1, 1) := by decide +kernel
theorem dX4_record_22 : decode cX4_record 22 = .ok (.aload_n 0, 1) := by decide +kernel
theorem dX4_record_23 : decode cX4_record 23 = .ok (.getfield 13, 3) := by decide +kernel
theorem dX4_record_26 : decode cX4_record 26 = .ok (.bipush 25, 2) := by decide +kernel
theorem dX4_record_28 : decode cX4_record 28 = .ok (.iload_n 1, 1) := by decide +kernel
theorem dX4_record_29 : decode cX4_record 29 = .ok (.iadd, 1) := by decide +kernel
theorem dX4_record_30 : decode cX4_record 30 = .ok (.iaload, 1) := by decide +kernel
theorem dX4_record_31 : decode cX4_record 31 = .ok (.iastore, 1) := by decide +kernel
theorem dX4_record_32 : decode cX4_record 32 = .ok (.iinc 1 1, 3) := by decide +kernel
theorem dX4_record_35 : decode cX4_record 35 = .ok (.goto (-24), 3) := by decide +kernel
theorem dX4_record_38 : decode cX4_record 38 = .ok (.aload_n 0, 1) := by decide +kernel
theorem dX4_record_39 : decode cX4_record 39 = .ok (.dup, 1) := by decide +kernel
theorem dX4_record_40 : decode cX4_record 40 = .ok (.getfield 48, 3) := by decide +kernel
theorem dX4_record_43 : decode cX4_record 43 = .ok (.iconst 1, 1) := by decide +kernel
theorem dX4_record_44 : decode cX4_record 44 = .ok (.isub, 1) := by decide +kernel
theorem dX4_record_45 : decode cX4_record 45 = .ok (.putfield 48, 3) := by decide +kernel
theorem dX4_record_48 : decode cX4_record 48 = .ok (.iconst 0, 1) := by decide +kernel
theorem dX4_record_49 : decode cX4_record 49 = .ok (.istore_n 1, 1) := by decide +kernel
theorem dX4_record_50 : decode cX4_record 50 = .ok (.iload_n 1, 1) := by decide +kernel
theorem dX4_record_51 : decode cX4_record 51 = .ok (.bipush 25, 2) := by decide +kernel
theorem dX4_record_53 : decode cX4_record 53 = .ok (.if_icmp .ge 29, 3) := by decide +kernel
theorem dX4_record_56 : decode cX4_record 56 = .ok (.aload_n 0, 1) := by decide +kernel
theorem dX4_record_57 : decode cX4_record 57 = .ok (.getfield 13, 3) := by decide +kernel
theorem dX4_record_60 : decode cX4_record 60 = .ok (.bipush 25, 2) := by decide +kernel
theorem dX4_record_62 : decode cX4_record 62 = .ok (.aload_n 0, 1) := by decide +kernel
theorem dX4_record_63 : decode cX4_record 63 = .ok (.getfield 48, 3) := by decide +kernel
theorem dX4_record_66 : decode cX4_record 66 = .ok (.imul, 1) := by decide +kernel
theorem dX4_record_67 : decode cX4_record 67 = .ok (.iload_n 1, 1) := by decide +kernel
theorem dX4_record_68 : decode cX4_record 68 = .ok (.iadd, 1) := by decide +kernel
theorem dX4_record_69 : decode cX4_record 69 = .ok (.aload_n 0, 1) := by decide +kernel
theorem dX4_record_70 : decode cX4_record 70 = .ok (.getfield 7, 3) := by decide +kernel
theorem dX4_record_73 : decode cX4_record 73 = .ok (.iload_n 1, 1) := by decide +kernel
theorem dX4_record_74 : decode cX4_record 74 = .ok (.iaload, 1) := by decide +kernel
theorem dX4_record_75 : decode cX4_record 75 = .ok (.iastore, 1) := by decide +kernel
theorem dX4_record_76 : decode cX4_record 76 = .ok (.iinc 1 1, 3) := by decide +kernel
theorem dX4_record_79 : decode cX4_record 79 = .ok (.goto (-29), 3) := by decide +kernel
theorem dX4_record_82 : decode cX4_record 82 = .ok (.aload_n 0, 1) := by decide +kernel
theorem dX4_record_83 : decode cX4_record 83 = .ok (.dup, 1) := by decide +kernel
theorem dX4_record_84 : decode cX4_record 84 = .ok (.getfield 48, 3) := by decide +kernel
theorem dX4_record_87 : decode cX4_record 87 = .ok (.iconst 1, 1) := by decide +kernel
theorem dX4_record_88 : decode cX4_record 88 = .ok (.iadd, 1) := by decide +kernel
theorem dX4_record_89 : decode cX4_record 89 = .ok (.putfield 48, 3) := by decide +kernel
theorem dX4_record_92 : decode cX4_record 92 = .ok (.return_, 1) := by decide +kernel
theorem dX4_undo_0 : decode cX4_undo 0 = .ok (.aload_n 0, 1) := by decide +kernel
theorem dX4_undo_1 : decode cX4_undo 1 = .ok (.aload_n 0, 1) := by decide +kernel
theorem dX4_undo_2 : decode cX4_undo 2 = .ok (.getfield 48, 3) := by decide +kernel
theorem dX4_undo_5 : decode cX4_undo 5 = .ok (.ifCond .ne 7, 3) := by decide +kernel
theorem dX4_undo_8 : decode cX4_undo 8 = .ok (.iconst 1, 1) := by decide +kernel
theorem dX4_undo_9 : decode cX4_undo 9 = .ok (.goto 4, 3) := by decide +kernel
theorem dX4_undo_12 : decode cX4_undo 12 = .ok (.iconst 0, 1) := by decide +kernel
theorem dX4_undo_13 : decode cX4_undo 13 = .ok (.putfield 29, 3) := by decide +kernel
theorem dX4_undo_16 : decode cX4_undo 16 = .ok (.aload_n 0, 1) := by decide +kernel
theorem dX4_undo_17 : decode cX4_undo 17 = .ok (.getfield 29, 3) := by decide +kernel
theorem dX4_undo_20 : decode cX4_undo 20 = .ok (.ifCond .le 5, 3) := by decide +kernel
theorem dX4_undo_23 : decode cX4_undo 23 = .ok (.iconst 0, 1) := by decide +kernel
theorem dX4_undo_24 : decode cX4_undo 24 = .ok (.ireturn, 1) := by decide +kernel
theorem dX4_undo_25 : decode cX4_undo 25 = .ok (.aload_n 0, 1) := by decide +kernel
theorem dX4_undo_26 : decode cX4_undo 26 = .ok (.dup, 1) := by decide +kernel
theorem dX4_undo_27 : decode cX4_undo 27 = .ok (.getfield 48, 3) := by decide +kernel
theorem dX4_undo_30 : decode cX4_undo 30 = .ok (.iconst 1, 1) := by decide +kernel
theorem dX4_undo_31 : decode cX4_undo 31 = .ok (.isub, 1) := by decide +kernel
theorem dX4_undo_32 : decode cX4_undo 32 = .ok (.putfield 48, 3) := by decide +kernel
theorem dX4_undo_35 : decode cX4_undo 35 = .ok (.iconst 0, 1) := by decide +kernel
theorem dX4_undo_36 : decode cX4_undo 36 = .ok (.istore_n 1, 1) := by decide +kernel
theorem dX4_undo_37 : decode cX4_undo 37 = .ok (.iload_n 1, 1) := by decide +kernel
theorem dX4_undo_38 : decode cX4_undo 38 = .ok (.bipush 25, 2) := by decide +kernel
theorem dX4_undo_40 : decode cX4_undo 40 = .ok (.if_icmp .ge 29, 3) := by decide +kernel
theorem dX4_undo_43 : decode cX4_undo 43 = .ok (.aload_n 0, 1) := by decide +kernel
theorem dX4_undo_44 : decode cX4_undo 44 = .ok (.getfield 7, 3) := by decide +kernel
theorem dX4_undo_47 : decode cX4_undo 47 = .ok (.iload_n 1, 1) := by decide +kernel
theorem dX4_undo_48 : decode cX4_undo 48 = .ok (.aload_n 0, 1) := by decide +kernel
theorem dX4_undo_49 : decode cX4_undo 49 = .ok (.getfield 13, 3) := by decide +kernel
theorem dX4_undo_52 : decode cX4_undo 52 = .ok (.bipush 25, 2) := by decide +kernel
theorem dX4_undo_54 : decode cX4_undo 54 = .ok (.aload_n 0, 1) := by decide +kernel
theorem dX4_undo_55 : decode cX4_undo 55 = .ok (.getfield 48, 3) := by decide +kernel
theorem dX4_undo_58 : decode cX4_undo 58 = .ok (.imul, 1) := by decide +kernel
theorem dX4_undo_59 : decode cX4_undo 59 = .ok (.iload_n 1, 1) := by decide +kernel
theorem dX4_undo_60 : decode cX4_undo 60 = .ok (.iadd, 1) := by decide +kernel
theorem dX4_undo_61 : decode cX4_undo 61 = .ok (.iaload, 1) := by decide +kernel
theorem dX4_undo_62 : decode cX4_undo 62 = .ok (.iastore, 1) := by decide +kernel
theorem dX4_undo_63 : decode cX4_undo 63 = .ok (.iinc 1 1, 3) := by decide +kernel
theorem dX4_undo_66 : decode cX4_undo 66 = .ok (.goto (-29), 3) := by decide +kernel
theorem dX4_undo_69 : decode cX4_undo 69 = .ok (.aload_n 0, 1) := by decide +kernel
theorem dX4_undo_70 : decode cX4_undo 70 = .ok (.getfield 48, 3) := by decide +kernel
theorem dX4_undo_73 : decode cX4_undo 73 = .ok (.ireturn, 1) := by decide +kernel
set_option maxRecDepth 20000 in
theorem ggX4_keep_X4_in : GoodIn wsX4_keep wsX4_in := goodIn_r _ [8] (by decide +kernel) (by decide +kernel)
set_option maxRecDepth 20000 in
theorem gX4_keep_X4_in : GoodIn wsX4_keep (va_wsS RX4 33 yX4_in wsX4_in) := goodIn_app (goodIn_of _ (by decide +kernel)) ggX4_keep_X4_in
set_option maxRecDepth 20000 in
theorem ggX4_keep_X4_turning : GoodIn wsX4_keep wsX4_turning := goodIn_r _ [12, 3, 13, 14, 15, 16, 17, 18, 19, 20, 21, 22, 23, 24] (by decide +kernel) (by decide +kernel)
set_option maxRecDepth 20000 in
theorem gX4_keep_X4_turning : GoodIn wsX4_keep (wsV RX4 51 RX4 yX4_turning wsX4_turning) := goodIn_app (goodIn_of _ (by decide +kernel)) ggX4_keep_X4_turning
theorem dX4_keep_0 : decode cX4_keep 0 = .ok (.aload_n 0, 1) := by decide +kernel
theorem dX4_keep_1 : decode cX4_keep 1 = .ok (.iload_n 1, 1) := by decide +kernel
theorem dX4_keep_2 : decode cX4_keep 2 = .ok (.iconst 0, 1) := by decide +kernel
theorem dX4_keep_3 : decode cX4_keep 3 = .ok (.iconst 1, 1) := by decide +kernel
theorem dX4_keep_4 : decode cX4_keep 4 = .ok (.invokestatic 33, 3) := by decide +kernel
theorem dX4_keep_7 : decode cX4_keep 7 = .ok (.ifCond .eq 7, 3) := by decide +kernel
theorem dX4_keep_10 : decode cX4_keep 10 = .ok (.iconst 0, 1) := by decide +kernel
theorem dX4_keep_11 : decode cX4_keep 11 = .ok (.goto 4, 3) := by decide +kernel
theorem dX4_keep_14 : decode cX4_keep 14 = .ok (.iconst 1, 1) := by decide +kernel
theorem dX4_keep_15 : decode cX4_keep 15 = .ok (.putfield 29, 3) := by decide +kernel
theorem dX4_keep_18 : decode cX4_keep 18 = .ok (.aload_n 0, 1) := by decide +kernel
theorem dX4_keep_19 : decode cX4_keep 19 = .ok (.getfield 29, 3) := by decide +kernel
theorem dX4_keep_22 : decode cX4_keep 22 = .ok (.ifCond .le 5, 3) := by decide +kernel
theorem dX4_keep_25 : decode cX4_keep 25 = .ok (.iconst 0, 1) := by decide +kernel
theorem dX4_keep_26 : decode cX4_keep 26 = .ok (.ireturn, 1) := by decide +kernel
theorem dX4_keep_27 : decode cX4_keep 27 = .ok (.iconst 0, 1) := by decide +kernel
theorem dX4_keep_28 : decode cX4_keep 28 = .ok (.istore_n 2, 1) := by decide +kernel
theorem dX4_keep_29 : decode cX4_keep 29 = .ok (.iload_n 2, 1) := by decide +kernel
theorem dX4_keep_30 : decode cX4_keep 30 = .ok (.bipush 25, 2) := by decide +kernel
theorem dX4_keep_32 : decode cX4_keep 32 = .ok (.if_icmp .ge 26, 3) := by decide +kernel
theorem dX4_keep_35 : decode cX4_keep 35 = .ok (.aload_n 0, 1) := by decide +kernel
theorem dX4_keep_36 : decode cX4_keep 36 = .ok (.getfield 16, 3) := by decide +kernel
theorem dX4_keep_39 : decode cX4_keep 39 = .ok (.bipush 25, 2) := by decide +kernel
theorem dX4_keep_41 : decode cX4_keep 41 = .ok (.iload_n 1, 1) := by decide +kernel
theorem dX4_keep_42 : decode cX4_keep 42 = .ok (.imul, 1) := by decide +kernel
theorem dX4_keep_43 : decode cX4_keep 43 = .ok (.iload_n 2, 1) := by decide +kernel
theorem dX4_keep_44 : decode cX4_keep 44 = .ok (.iadd, 1) := by decide +kernel
theorem dX4_keep_45 : decode cX4_keep 45 = .ok (.aload_n 0, 1) := by decide +kernel
theorem dX4_keep_46 : decode cX4_keep 46 = .ok (.getfield 7, 3) := by decide +kernel
theorem dX4_keep_49 : decode cX4_keep 49 = .ok (.iload_n 2, 1) := by decide +kernel
theorem dX4_keep_50 : decode cX4_keep 50 = .ok (.iaload, 1) := by decide +kernel
theorem dX4_keep_51 : decode cX4_keep 51 = .ok (.iastore, 1) := by decide +kernel
theorem dX4_keep_52 : decode cX4_keep 52 = .ok (.iinc 2 1, 3) := by decide +kernel
theorem dX4_keep_55 : decode cX4_keep 55 = .ok (.goto (-26), 3) := by decide +kernel
theorem dX4_keep_58 : decode cX4_keep 58 = .ok (.aload_n 0, 1) := by decide +kernel
theorem dX4_keep_59 : decode cX4_keep 59 = .ok (.getfield 19, 3) := by decide +kernel
theorem dX4_keep_62 : decode cX4_keep 62 = .ok (.iload_n 1, 1) := by decide +kernel
theorem dX4_keep_63 : decode cX4_keep 63 = .ok (.iconst 1, 1) := by decide +kernel
theorem dX4_keep_64 : decode cX4_keep 64 = .ok (.bastore, 1) := by decide +kernel
theorem dX4_keep_65 : decode cX4_keep 65 = .ok (.aload_n 0, 1) := by decide +kernel
theorem dX4_keep_66 : decode cX4_keep 66 = .ok (.invokevirtual 51, 3) := by decide +kernel
theorem dX4_keep_69 : decode cX4_keep 69 = .ok (.ireturn, 1) := by decide +kernel
set_option maxRecDepth 20000 in
theorem ggX4_goBack_X4_in : GoodIn wsX4_goBack wsX4_in := goodIn_r _ [8] (by decide +kernel) (by decide +kernel)
set_option maxRecDepth 20000 in
theorem gX4_goBack_X4_in : GoodIn wsX4_goBack (va_wsS RX4 33 yX4_in wsX4_in) := goodIn_app (goodIn_of _ (by decide +kernel)) ggX4_goBack_X4_in
set_option maxRecDepth 20000 in
theorem ggX4_goBack_X4_record : GoodIn wsX4_goBack wsX4_record := goodIn_r _ [12, 13, 14, 3, 19, 20, 21, 22, 23, 24, 25, 26, 27, 28, 29, 30] (by decide +kernel) (by decide +kernel)
set_option maxRecDepth 20000 in
theorem gX4_goBack_X4_record : GoodIn wsX4_goBack (wsV RX4 55 RX4 yX4_record wsX4_record) := goodIn_app (goodIn_of _ (by decide +kernel)) ggX4_goBack_X4_record
set_option maxRecDepth 20000 in
theorem ggX4_goBack_X4_turning : GoodIn wsX4_goBack wsX4_turning := goodIn_r _ [18, 3, 19, 20, 21, 22, 23, 24, 25, 26, 27, 28, 29, 30] (by decide +kernel) (by decide +kernel)
set_option maxRecDepth 20000 in
theorem gX4_goBack_X4_turning : GoodIn wsX4_goBack (wsV RX4 51 RX4 yX4_turning wsX4_turning) := goodIn_app (goodIn_of _ (by decide +kernel)) ggX4_goBack_X4_turning
theorem dX4_goBack_0 : decode cX4_goBack 0 = .ok (.aload_n 0, 1) := by decide +kernel
theorem dX4_goBack_1 : decode cX4_goBack 1 = .ok (.iload_n 1, 1) := by decide +kernel
theorem dX4_goBack_2 : decode cX4_goBack 2 = .ok (.iconst 0, 1) := by decide +kernel
theorem dX4_goBack_3 : decode cX4_goBack 3 = .ok (.iconst 1, 1) := by decide +kernel
theorem dX4_goBack_4 : decode cX4_goBack 4 = .ok (.invokestatic 33, 3) := by decide +kernel
theorem dX4_goBack_7 : decode cX4_goBack 7 = .ok (.ifCond .ne 7, 3) := by decide +kernel
theorem dX4_goBack_10 : decode cX4_goBack 10 = .ok (.iconst 1, 1) := by decide +kernel
theorem dX4_goBack_11 : decode cX4_goBack 11 = .ok (.goto 17, 3) := by decide +kernel
theorem dX4_goBack_14 : decode cX4_goBack 14 = .ok (.aload_n 0, 1) := by decide +kernel
theorem dX4_goBack_15 : decode cX4_goBack 15 = .ok (.getfield 19, 3) := by decide +kernel
theorem dX4_goBack_18 : decode cX4_goBack 18 = .ok (.iload_n 1, 1) := by decide +kernel
theorem dX4_goBack_19 : decode cX4_goBack 19 = .ok (.baload, 1) := by decide +kernel
theorem dX4_goBack_20 : decode cX4_goBack 20 = .ok (.ifCond .eq 7, 3) := by decide +kernel
theorem dX4_goBack_23 : decode cX4_goBack 23 = .ok (.iconst 0, 1) := by decide +kernel
theorem dX4_goBack_24 : decode cX4_goBack 24 = .ok (.goto 4, 3) := by decide +kernel
theorem dX4_goBack_27 : decode cX4_goBack 27 = .ok (.iconst 2, 1) := by decide +kernel
theorem dX4_goBack_28 : decode cX4_goBack 28 = .ok (.putfield 29, 3) := by decide +kernel
theorem dX4_goBack_31 : decode cX4_goBack 31 = .ok (.aload_n 0, 1) := by decide +kernel
theorem dX4_goBack_32 : decode cX4_goBack 32 = .ok (.getfield 29, 3) := by decide +kernel
theorem dX4_goBack_35 : decode cX4_goBack 35 = .ok (.ifCond .le 5, 3) := by decide +kernel
theorem dX4_goBack_38 : decode cX4_goBack 38 = .ok (.iconst 0, 1) := by decide +kernel
theorem dX4_goBack_39 : decode cX4_goBack 39 = .ok (.ireturn, 1) := by decide +kernel
theorem dX4_goBack_40 : decode cX4_goBack 40 = .ok (.aload_n 0, 1) := by decide +kernel
theorem dX4_goBack_41 : decode cX4_goBack 41 = .ok (.invokevirtual 55, 3) := by decide +kernel
theorem dX4_goBack_44 : decode cX4_goBack 44 = .ok (.iconst 0, 1) := by decide +kernel
theorem dX4_goBack_45 : decode cX4_goBack 45 = .ok (.istore_n 2, 1) := by decide +kernel
theorem dX4_goBack_46 : decode cX4_goBack 46 = .ok (.iload_n 2, 1) := by decide +kernel
theorem dX4_goBack_47 : decode cX4_goBack 47 = .ok (.bipush 25, 2) := by decide +kernel
theorem dX4_goBack_49 : decode cX4_goBack 49 = .ok (.if_icmp .ge 26, 3) := by decide +kernel
theorem dX4_goBack_52 : decode cX4_goBack 52 = .ok (.aload_n 0, 1) := by decide +kernel
theorem dX4_goBack_53 : decode cX4_goBack 53 = .ok (.getfield 7, 3) := by decide +kernel
theorem dX4_goBack_56 : decode cX4_goBack 56 = .ok (.iload_n 2, 1) := by decide +kernel
theorem dX4_goBack_57 : decode cX4_goBack 57 = .ok (.aload_n 0, 1) := by decide +kernel
theorem dX4_goBack_58 : decode cX4_goBack 58 = .ok (.getfield 16, 3) := by decide +kernel
theorem dX4_goBack_61 : decode cX4_goBack 61 = .ok (.bipush 25, 2) := by decide +kernel
theorem dX4_goBack_63 : decode cX4_goBack 63 = .ok (.iload_n 1, 1) := by decide +kernel
theorem dX4_goBack_64 : decode cX4_goBack 64 = .ok (.imul, 1) := by decide +kernel
theorem dX4_goBack_65 : decode cX4_goBack 65 = .ok (.iload_n 2, 1) := by decide +kernel
theorem dX4_goBack_66 : decode cX4_goBack 66 = .ok (.iadd, 1) := by decide +kernel
theorem dX4_goBack_67 : decode cX4_goBack 67 = .ok (.iaload, 1) := by decide +kernel
theorem dX4_goBack_68 : decode cX4_goBack 68 = .ok (.iastore, 1) := by decide +kernel
theorem dX4_goBack_69 : decode cX4_goBack 69 = .ok (.iinc 2 1, 3) := by decide +kernel
theorem dX4_goBack_72 : decode cX4_goBack 72 = .ok (.goto (-26), 3) := by decide +kernel
theorem dX4_goBack_75 : decode cX4_goBack 75 = .ok (.aload_n 0, 1) := by decide +kernel
theorem dX4_goBack_76 : decode cX4_goBack 76 = .ok (.invokevirtual 51, 3) := by decide +kernel
theorem dX4_goBack_79 : decode cX4_goBack 79 = .ok (.ireturn, 1) := by decide +kernel
set_option maxRecDepth 20000 in
theorem ggX4_change_X4_record : GoodIn wsX4_change wsX4_record := goodIn_r _ [6, 7, 8, 1, 9, 10, 11, 12, 13, 14, 15, 16, 17, 18, 19, 20] (by decide +kernel) (by decide +kernel)
set_option maxRecDepth 20000 in
theorem gX4_change_X4_record : GoodIn wsX4_change (wsV RX4 55 RX4 yX4_record wsX4_record) := goodIn_app (goodIn_of _ (by decide +kernel)) ggX4_change_X4_record
theorem dX4_change_0 : decode cX4_change 0 = .ok (.aload_n 0, 1) := by decide +kernel
theorem dX4_change_1 : decode cX4_change 1 = .ok (.invokevirtual 55, 3) := by decide +kernel
theorem dX4_change_4 : decode cX4_change 4 = .ok (.aload_n 0, 1) := by decide +kernel
theorem dX4_change_5 : decode cX4_change 5 = .ok (.getfield 7, 3) := by decide +kernel
theorem dX4_change_8 : decode cX4_change 8 = .ok (.iload_n 1, 1) := by decide +kernel
theorem dX4_change_9 : decode cX4_change 9 = .ok (.iaload, 1) := by decide +kernel
theorem dX4_change_10 : decode cX4_change 10 = .ok (.istore_n 3, 1) := by decide +kernel
theorem dX4_change_11 : decode cX4_change 11 = .ok (.aload_n 0, 1) := by decide +kernel
theorem dX4_change_12 : decode cX4_change 12 = .ok (.getfield 7, 3) := by decide +kernel
theorem dX4_change_15 : decode cX4_change 15 = .ok (.iload_n 1, 1) := by decide +kernel
theorem dX4_change_16 : decode cX4_change 16 = .ok (.iload_n 2, 1) := by decide +kernel
theorem dX4_change_17 : decode cX4_change 17 = .ok (.iastore, 1) := by decide +kernel
theorem dX4_change_18 : decode cX4_change 18 = .ok (.iload_n 3, 1) := by decide +kernel
theorem dX4_change_19 : decode cX4_change 19 = .ok (.ireturn, 1) := by decide +kernel
set_option maxRecDepth 20000 in
theorem ggX4_set_X4_isOne : GoodIn wsX4_set wsX4_isOne := goodIn_r _ [5, 6, 7, 4, 8] (by decide +kernel) (by decide +kernel)
set_option maxRecDepth 20000 in
theorem gX4_set_X4_isOne : GoodIn wsX4_set (va_wsS RX4 58 yX4_isOne wsX4_isOne) := goodIn_app (goodIn_of _ (by decide +kernel)) ggX4_set_X4_isOne
set_option maxRecDepth 20000 in
theorem ggX4_set_X4_in : GoodIn wsX4_set wsX4_in := goodIn_r _ [8] (by decide +kernel) (by decide +kernel)
set_option maxRecDepth 20000 in
theorem gX4_set_X4_in : GoodIn wsX4_set (va_wsS RX4 33 yX4_in wsX4_in) := goodIn_app (goodIn_of _ (by decide +kernel)) ggX4_set_X4_in
set_option maxRecDepth 20000 in
theorem ggX4_set_X4_change : GoodIn wsX4_set wsX4_change := goodIn_r _ [12, 13, 14, 15, 16, 4, 17, 18, 19, 20, 21, 22, 23, 24, 25, 26, 27, 28, 29, 30, 31] (by decide +kernel) (by decide +kernel)
set_option maxRecDepth 20000 in
theorem gX4_set_X4_change : GoodIn wsX4_set (wsV RX4 62 RX4 yX4_change wsX4_change) := goodIn_app (goodIn_of _ (by decide +kernel)) ggX4_set_X4_change
theorem dX4_set_0 : decode cX4_set 0 = .ok (.aload_n 0, 1) := by decide +kernel
theorem dX4_set_1 : decode cX4_set 1 = .ok (.iload_n 1, 1) := by decide +kernel
theorem dX4_set_2 : decode cX4_set 2 = .ok (.invokestatic 58, 3) := by decide +kernel
theorem dX4_set_5 : decode cX4_set 5 = .ok (.ifCond .ne 7, 3) := by decide +kernel
theorem dX4_set_8 : decode cX4_set 8 = .ok (.iconst 1, 1) := by decide +kernel
theorem dX4_set_9 : decode cX4_set 9 = .ok (.goto 19, 3) := by decide +kernel
theorem dX4_set_12 : decode cX4_set 12 = .ok (.iload_n 2, 1) := by decide +kernel
theorem dX4_set_13 : decode cX4_set 13 = .ok (.bipush (-99), 2) := by decide +kernel
theorem dX4_set_15 : decode cX4_set 15 = .ok (.bipush 99, 2) := by decide +kernel
theorem dX4_set_17 : decode cX4_set 17 = .ok (.invokestatic 33, 3) := by decide +kernel
theorem dX4_set_20 : decode cX4_set 20 = .ok (.ifCond .eq 7, 3) := by decide +kernel
theorem dX4_set_23 : decode cX4_set 23 = .ok (.iconst 0, 1) := by decide +kernel
theorem dX4_set_24 : decode cX4_set 24 = .ok (.goto 4, 3) := by decide +kernel
theorem dX4_set_27 : decode cX4_set 27 = .ok (.iconst 2, 1) := by decide +kernel
theorem dX4_set_28 : decode cX4_set 28 = .ok (.putfield 29, 3) := by decide +kernel
theorem dX4_set_31 : decode cX4_set 31 = .ok (.aload_n 0, 1) := by decide +kernel
theorem dX4_set_32 : decode cX4_set 32 = .ok (.getfield 29, 3) := by decide +kernel
theorem dX4_set_35 : decode cX4_set 35 = .ok (.ifCond .le 7, 3) := by decide +kernel
theorem dX4_set_38 : decode cX4_set 38 = .ok (.iconst 0, 1) := by decide +kernel
theorem dX4_set_39 : decode cX4_set 39 = .ok (.goto 9, 3) := by decide +kernel
theorem dX4_set_42 : decode cX4_set 42 = .ok (.aload_n 0, 1) := by decide +kernel
theorem dX4_set_43 : decode cX4_set 43 = .ok (.iload_n 1, 1) := by decide +kernel
theorem dX4_set_44 : decode cX4_set 44 = .ok (.iload_n 2, 1) := by decide +kernel
theorem dX4_set_45 : decode cX4_set 45 = .ok (.invokevirtual 62, 3) := by decide +kernel
theorem dX4_set_48 : decode cX4_set 48 = .ok (.ireturn, 1) := by decide +kernel
set_option maxRecDepth 20000 in
theorem ggX4_lose_X4_isOne : GoodIn wsX4_lose wsX4_isOne := goodIn_r _ [6, 7, 8, 5, 9] (by decide +kernel) (by decide +kernel)
set_option maxRecDepth 20000 in
theorem gX4_lose_X4_isOne : GoodIn wsX4_lose (va_wsS RX4 58 yX4_isOne wsX4_isOne) := goodIn_app (goodIn_of _ (by decide +kernel)) ggX4_lose_X4_isOne
set_option maxRecDepth 20000 in
theorem ggX4_lose_X4_change : GoodIn wsX4_lose wsX4_change := goodIn_r _ [13, 2, 14, 15, 16, 5, 17, 18, 19, 20, 21, 22, 23, 24, 25, 26, 27, 28, 29, 30, 31] (by decide +kernel) (by decide +kernel)
set_option maxRecDepth 20000 in
theorem gX4_lose_X4_change : GoodIn wsX4_lose (wsV RX4 62 RX4 yX4_change wsX4_change) := goodIn_app (goodIn_of _ (by decide +kernel)) ggX4_lose_X4_change
theorem dX4_lose_0 : decode cX4_lose 0 = .ok (.aload_n 0, 1) := by decide +kernel
theorem dX4_lose_1 : decode cX4_lose 1 = .ok (.iload_n 1, 1) := by decide +kernel
theorem dX4_lose_2 : decode cX4_lose 2 = .ok (.invokestatic 58, 3) := by decide +kernel
theorem dX4_lose_5 : decode cX4_lose 5 = .ok (.ifCond .eq 7, 3) := by decide +kernel
theorem dX4_lose_8 : decode cX4_lose 8 = .ok (.iconst 0, 1) := by decide +kernel
theorem dX4_lose_9 : decode cX4_lose 9 = .ok (.goto 4, 3) := by decide +kernel
theorem dX4_lose_12 : decode cX4_lose 12 = .ok (.iconst 1, 1) := by decide +kernel
theorem dX4_lose_13 : decode cX4_lose 13 = .ok (.putfield 29, 3) := by decide +kernel
theorem dX4_lose_16 : decode cX4_lose 16 = .ok (.aload_n 0, 1) := by decide +kernel
theorem dX4_lose_17 : decode cX4_lose 17 = .ok (.getfield 29, 3) := by decide +kernel
theorem dX4_lose_20 : decode cX4_lose 20 = .ok (.ifCond .le 5, 3) := by decide +kernel
theorem dX4_lose_23 : decode cX4_lose 23 = .ok (.iconst 0, 1) := by decide +kernel
theorem dX4_lose_24 : decode cX4_lose 24 = .ok (.ireturn, 1) := by decide +kernel
theorem dX4_lose_25 : decode cX4_lose 25 = .ok (.aload_n 0, 1) := by decide +kernel
theorem dX4_lose_26 : decode cX4_lose 26 = .ok (.bipush 8, 2) := by decide +kernel
theorem dX4_lose_28 : decode cX4_lose 28 = .ok (.iload_n 1, 1) := by decide +kernel
theorem dX4_lose_29 : decode cX4_lose 29 = .ok (.iadd, 1) := by decide +kernel
theorem dX4_lose_30 : decode cX4_lose 30 = .ok (.iconst 1, 1) := by decide +kernel
theorem dX4_lose_31 : decode cX4_lose 31 = .ok (.aload_n 0, 1) := by decide +kernel
theorem dX4_lose_32 : decode cX4_lose 32 = .ok (.getfield 7, 3) := by decide +kernel
theorem dX4_lose_35 : decode cX4_lose 35 = .ok (.bipush 8, 2) := by decide +kernel
theorem dX4_lose_37 : decode cX4_lose 37 = .ok (.iload_n 1, 1) := by decide +kernel
theorem dX4_lose_38 : decode cX4_lose 38 = .ok (.iadd, 1) := by decide +kernel
theorem dX4_lose_39 : decode cX4_lose 39 = .ok (.iaload, 1) := by decide +kernel
theorem dX4_lose_40 : decode cX4_lose 40 = .ok (.isub, 1) := by decide +kernel
theorem dX4_lose_41 : decode cX4_lose 41 = .ok (.invokevirtual 62, 3) := by decide +kernel
theorem dX4_lose_44 : decode cX4_lose 44 = .ok (.pop, 1) := by decide +kernel
theorem dX4_lose_45 : decode cX4_lose 45 = .ok (.aload_n 0, 1) := by decide +kernel
theorem dX4_lose_46 : decode cX4_lose 46 = .ok (.getfield 7, 3) := by decide +kernel
theorem dX4_lose_49 : decode cX4_lose 49 = .ok (.bipush 8, 2) := by decide +kernel
theorem dX4_lose_51 : decode cX4_lose 51 = .ok (.iload_n 1, 1) := by decide +kernel
theorem dX4_lose_52 : decode cX4_lose 52 = .ok (.iadd, 1) := by decide +kernel
theorem dX4_lose_53 : decode cX4_lose 53 = .ok (.iaload, 1) := by decide +kernel
theorem dX4_lose_54 : decode cX4_lose 54 = .ok (.ireturn, 1) := by decide +kernel
set_option maxRecDepth 20000 in
theorem ggX4_turn_X4_isOne : GoodIn wsX4_turn wsX4_isOne := goodIn_r _ [6, 7, 8, 5, 9] (by decide +kernel) (by decide +kernel)
set_option maxRecDepth 20000 in
theorem gX4_turn_X4_isOne : GoodIn wsX4_turn (va_wsS RX4 58 yX4_isOne wsX4_isOne) := goodIn_app (goodIn_of _ (by decide +kernel)) ggX4_turn_X4_isOne
set_option maxRecDepth 20000 in
theorem ggX4_turn_X4_record : GoodIn wsX4_turn wsX4_record := goodIn_r _ [13, 14, 15, 2, 19, 20, 21, 22, 23, 24, 25, 26, 27, 28, 29, 30] (by decide +kernel) (by decide +kernel)
set_option maxRecDepth 20000 in
theorem gX4_turn_X4_record : GoodIn wsX4_turn (wsV RX4 55 RX4 yX4_record wsX4_record) := goodIn_app (goodIn_of _ (by decide +kernel)) ggX4_turn_X4_record
set_option maxRecDepth 20000 in
theorem ggX4_turn_X4_wave : GoodIn wsX4_turn wsX4_wave := goodIn_r _ [18] (by decide +kernel) (by decide +kernel)
set_option maxRecDepth 20000 in
theorem gX4_turn_X4_wave : GoodIn wsX4_turn (va_wsS RX4 41 yX4_wave wsX4_wave) := goodIn_app (goodIn_of _ (by decide +kernel)) ggX4_turn_X4_wave
theorem dX4_turn_0 : decode cX4_turn 0 = .ok (.aload_n 0, 1) := by decide +kernel
theorem dX4_turn_1 : decode cX4_turn 1 = .ok (.iload_n 1, 1) := by decide +kernel
theorem dX4_turn_2 : decode cX4_turn 2 = .ok (.invokestatic 58, 3) := by decide +kernel
theorem dX4_turn_5 : decode cX4_turn 5 = .ok (.ifCond .eq 7, 3) := by decide +kernel
theorem dX4_turn_8 : decode cX4_turn 8 = .ok (.iconst 0, 1) := by decide +kernel
theorem dX4_turn_9 : decode cX4_turn 9 = .ok (.goto 4, 3) := by decide +kernel
theorem dX4_turn_12 : decode cX4_turn 12 = .ok (.iconst 1, 1) := by decide +kernel
theorem dX4_turn_13 : decode cX4_turn 13 = .ok (.putfield 29, 3) := by decide +kernel
theorem dX4_turn_16 : decode cX4_turn 16 = .ok (.aload_n 0, 1) := by decide +kernel
theorem dX4_turn_17 : decode cX4_turn 17 = .ok (.getfield 29, 3) := by decide +kernel
theorem dX4_turn_20 : decode cX4_turn 20 = .ok (.ifCond .le 5, 3) := by decide +kernel
theorem dX4_turn_23 : decode cX4_turn 23 = .ok (.iconst 0, 1) := by decide +kernel
theorem dX4_turn_24 : decode cX4_turn 24 = .ok (.ireturn, 1) := by decide +kernel
theorem dX4_turn_25 : decode cX4_turn 25 = .ok (.aload_n 0, 1) := by decide +kernel
theorem dX4_turn_26 : decode cX4_turn 26 = .ok (.invokevirtual 55, 3) := by decide +kernel
theorem dX4_turn_29 : decode cX4_turn 29 = .ok (.iconst 0, 1) := by decide +kernel
theorem dX4_turn_30 : decode cX4_turn 30 = .ok (.istore_n 2, 1) := by decide +kernel
theorem dX4_turn_31 : decode cX4_turn 31 = .ok (.iconst 0, 1) := by decide +kernel
theorem dX4_turn_32 : decode cX4_turn 32 = .ok (.istore_n 3, 1) := by decide +kernel
theorem dX4_turn_33 : decode cX4_turn 33 = .ok (.iload_n 3, 1) := by decide +kernel
theorem dX4_turn_34 : decode cX4_turn 34 = .ok (.bipush 8, 2) := by decide +kernel
theorem dX4_turn_36 : decode cX4_turn 36 = .ok (.if_icmp .ge 48, 3) := by decide +kernel
theorem dX4_turn_39 : decode cX4_turn 39 = .ok (.iload_n 2, 1) := by decide +kernel
theorem dX4_turn_40 : decode cX4_turn 40 = .ok (.aload_n 0, 1) := by decide +kernel
theorem dX4_turn_41 : decode cX4_turn 41 = .ok (.getfield 7, 3) := by decide +kernel
theorem dX4_turn_44 : decode cX4_turn 44 = .ok (.iload_n 3, 1) := by decide +kernel
theorem dX4_turn_45 : decode cX4_turn 45 = .ok (.iaload, 1) := by decide +kernel
theorem dX4_turn_46 : decode cX4_turn 46 = .ok (.ifCond .eq 15, 3) := by decide +kernel
theorem dX4_turn_49 : decode cX4_turn 49 = .ok (.iload_n 3, 1) := by decide +kernel
theorem dX4_turn_50 : decode cX4_turn 50 = .ok (.iload_n 1, 1) := by decide +kernel
theorem dX4_turn_51 : decode cX4_turn 51 = .ok (.invokestatic 41, 3) := by decide +kernel
theorem dX4_turn_54 : decode cX4_turn 54 = .ok (.ifCond .ge 7, 3) := by decide +kernel
theorem dX4_turn_57 : decode cX4_turn 57 = .ok (.iconst 1, 1) := by decide +kernel
theorem dX4_turn_58 : decode cX4_turn 58 = .ok (.goto 4, 3) := by decide +kernel
theorem dX4_turn_61 : decode cX4_turn 61 = .ok (.iconst 0, 1) := by decide +kernel
theorem dX4_turn_62 : decode cX4_turn 62 = .ok (.iadd, 1) := by decide +kernel
theorem dX4_turn_63 : decode cX4_turn 63 = .ok (.istore_n 2, 1) := by decide +kernel
theorem dX4_turn_64 : decode cX4_turn 64 = .ok (.aload_n 0, 1) := by decide +kernel
theorem dX4_turn_65 : decode cX4_turn 65 = .ok (.getfield 7, 3) := by decide +kernel
theorem dX4_turn_68 : decode cX4_turn 68 = .ok (.iload_n 3, 1) := by decide +kernel
theorem dX4_turn_69 : decode cX4_turn 69 = .ok (.dup2, 1) := by decide +kernel
theorem dX4_turn_70 : decode cX4_turn 70 = .ok (.iaload, 1) := by decide +kernel
theorem dX4_turn_71 : decode cX4_turn 71 = .ok (.iload_n 3, 1) := by decide +kernel
theorem dX4_turn_72 : decode cX4_turn 72 = .ok (.iload_n 1, 1) := by decide +kernel
theorem dX4_turn_73 : decode cX4_turn 73 = .ok (.invokestatic 41, 3) := by decide +kernel
theorem dX4_turn_76 : decode cX4_turn 76 = .ok (.imul, 1) := by decide +kernel
theorem dX4_turn_77 : decode cX4_turn 77 = .ok (.iastore, 1) := by decide +kernel
theorem dX4_turn_78 : decode cX4_turn 78 = .ok (.iinc 3 1, 3) := by decide +kernel
theorem dX4_turn_81 : decode cX4_turn 81 = .ok (.goto (-48), 3) := by decide +kernel
theorem dX4_turn_84 : decode cX4_turn 84 = .ok (.iload_n 2, 1) := by decide +kernel
theorem dX4_turn_85 : decode cX4_turn 85 = .ok (.ireturn, 1) := by decide +kernel
set_option maxRecDepth 20000 in
theorem ggX4_drop_X4_in : GoodIn wsX4_drop wsX4_in := goodIn_r _ [6] (by decide +kernel) (by decide +kernel)
set_option maxRecDepth 20000 in
theorem gX4_drop_X4_in : GoodIn wsX4_drop (va_wsS RX4 33 yX4_in wsX4_in) := goodIn_app (goodIn_of _ (by decide +kernel)) ggX4_drop_X4_in
set_option maxRecDepth 20000 in
theorem ggX4_drop_X4_record : GoodIn wsX4_drop wsX4_record := goodIn_r _ [10, 11, 12, 2, 20, 21, 22, 23, 24, 25, 26, 27, 28, 29, 30, 31] (by decide +kernel) (by decide +kernel)
set_option maxRecDepth 20000 in
theorem gX4_drop_X4_record : GoodIn wsX4_drop (wsV RX4 55 RX4 yX4_record wsX4_record) := goodIn_app (goodIn_of _ (by decide +kernel)) ggX4_drop_X4_record
set_option maxRecDepth 20000 in
theorem ggX4_drop_X4_turning : GoodIn wsX4_drop wsX4_turning := goodIn_r _ [16, 2, 20, 21, 22, 23, 24, 25, 26, 27, 28, 29, 30, 31] (by decide +kernel) (by decide +kernel)
set_option maxRecDepth 20000 in
theorem gX4_drop_X4_turning : GoodIn wsX4_drop (wsV RX4 51 RX4 yX4_turning wsX4_turning) := goodIn_app (goodIn_of _ (by decide +kernel)) ggX4_drop_X4_turning
set_option maxRecDepth 20000 in
theorem ggX4_drop_X4_amount : GoodIn wsX4_drop wsX4_amount := goodIn_r _ [19] (by decide +kernel) (by decide +kernel)
set_option maxRecDepth 20000 in
theorem gX4_drop_X4_amount : GoodIn wsX4_drop (va_wsS RX4 65 yX4_amount wsX4_amount) := goodIn_app (goodIn_of _ (by decide +kernel)) ggX4_drop_X4_amount
theorem dX4_drop_0 : decode cX4_drop 0 = .ok (.aload_n 0, 1) := by decide +kernel
theorem dX4_drop_1 : decode cX4_drop 1 = .ok (.iload_n 1, 1) := by decide +kernel
theorem dX4_drop_2 : decode cX4_drop 2 = .ok (.iconst 1, 1) := by decide +kernel
theorem dX4_drop_3 : decode cX4_drop 3 = .ok (.bipush 99, 2) := by decide +kernel
theorem dX4_drop_5 : decode cX4_drop 5 = .ok (.invokestatic 33, 3) := by decide +kernel
theorem dX4_drop_8 : decode cX4_drop 8 = .ok (.ifCond .eq 7, 3) := by decide +kernel
theorem dX4_drop_11 : decode cX4_drop 11 = .ok (.iconst 0, 1) := by decide +kernel
theorem dX4_drop_12 : decode cX4_drop 12 = .ok (.goto 4, 3) := by decide +kernel
theorem dX4_drop_15 : decode cX4_drop 15 = .ok (.iconst 1, 1) := by decide +kernel
theorem dX4_drop_16 : decode cX4_drop 16 = .ok (.putfield 29, 3) := by decide +kernel
theorem dX4_drop_19 : decode cX4_drop 19 = .ok (.aload_n 0, 1) := by decide +kernel
theorem dX4_drop_20 : decode cX4_drop 20 = .ok (.getfield 29, 3) := by decide +kernel
theorem dX4_drop_23 : decode cX4_drop 23 = .ok (.ifCond .le 5, 3) := by decide +kernel
theorem dX4_drop_26 : decode cX4_drop 26 = .ok (.iconst 0, 1) := by decide +kernel
theorem dX4_drop_27 : decode cX4_drop 27 = .ok (.ireturn, 1) := by decide +kernel
theorem dX4_drop_28 : decode cX4_drop 28 = .ok (.aload_n 0, 1) := by decide +kernel
theorem dX4_drop_29 : decode cX4_drop 29 = .ok (.invokevirtual 55, 3) := by decide +kernel
theorem dX4_drop_32 : decode cX4_drop 32 = .ok (.aload_n 0, 1) := by decide +kernel
theorem dX4_drop_33 : decode cX4_drop 33 = .ok (.invokevirtual 51, 3) := by decide +kernel
theorem dX4_drop_36 : decode cX4_drop 36 = .ok (.istore_n 2, 1) := by decide +kernel
theorem dX4_drop_37 : decode cX4_drop 37 = .ok (.iconst 0, 1) := by decide +kernel
theorem dX4_drop_38 : decode cX4_drop 38 = .ok (.istore_n 3, 1) := by decide +kernel
theorem dX4_drop_39 : decode cX4_drop 39 = .ok (.iload_n 3, 1) := by decide +kernel
theorem dX4_drop_40 : decode cX4_drop 40 = .ok (.bipush 8, 2) := by decide +kernel
theorem dX4_drop_42 : decode cX4_drop 42 = .ok (.if_icmp .ge 38, 3) := by decide +kernel
theorem dX4_drop_45 : decode cX4_drop 45 = .ok (.aload_n 0, 1) := by decide +kernel
theorem dX4_drop_46 : decode cX4_drop 46 = .ok (.getfield 7, 3) := by decide +kernel
theorem dX4_drop_49 : decode cX4_drop 49 = .ok (.iload_n 3, 1) := by decide +kernel
theorem dX4_drop_50 : decode cX4_drop 50 = .ok (.aload_n 0, 1) := by decide +kernel
theorem dX4_drop_51 : decode cX4_drop 51 = .ok (.getfield 7, 3) := by decide +kernel
theorem dX4_drop_54 : decode cX4_drop 54 = .ok (.iload_n 3, 1) := by decide +kernel
theorem dX4_drop_55 : decode cX4_drop 55 = .ok (.iaload, 1) := by decide +kernel
theorem dX4_drop_56 : decode cX4_drop 56 = .ok (.invokestatic 65, 3) := by decide +kernel
theorem dX4_drop_59 : decode cX4_drop 59 = .ok (.iload_n 1, 1) := by decide +kernel
theorem dX4_drop_60 : decode cX4_drop 60 = .ok (.if_icmp .ge 7, 3) := by decide +kernel
theorem dX4_drop_63 : decode cX4_drop 63 = .ok (.iconst 0, 1) := by decide +kernel
theorem dX4_drop_64 : decode cX4_drop 64 = .ok (.goto 9, 3) := by decide +kernel
theorem dX4_drop_67 : decode cX4_drop 67 = .ok (.aload_n 0, 1) := by decide +kernel
theorem dX4_drop_68 : decode cX4_drop 68 = .ok (.getfield 7, 3) := by decide +kernel
theorem dX4_drop_71 : decode cX4_drop 71 = .ok (.iload_n 3, 1) := by decide +kernel
theorem dX4_drop_72 : decode cX4_drop 72 = .ok (.iaload, 1) := by decide +kernel
theorem dX4_drop_73 : decode cX4_drop 73 = .ok (.iastore, 1) := by decide +kernel
theorem dX4_drop_74 : decode cX4_drop 74 = .ok (.iinc 3 1, 3) := by decide +kernel
theorem dX4_drop_77 : decode cX4_drop 77 = .ok (.goto (-38), 3) := by decide +kernel
theorem dX4_drop_80 : decode cX4_drop 80 = .ok (.iload_n 2, 1) := by decide +kernel
theorem dX4_drop_81 : decode cX4_drop 81 = .ok (.aload_n 0, 1) := by decide +kernel
theorem dX4_drop_82 : decode cX4_drop 82 = .ok (.invokevirtual 51, 3) := by decide +kernel
theorem dX4_drop_85 : decode cX4_drop 85 = .ok (.isub, 1) := by decide +kernel
theorem dX4_drop_86 : decode cX4_drop 86 = .ok (.ireturn, 1) := by decide +kernel
set_option maxRecDepth 20000 in
theorem ggX4_point_X4_isOne : GoodIn wsX4_point wsX4_isOne := goodIn_r _ [5, 6, 7, 4, 8] (by decide +kernel) (by decide +kernel)
set_option maxRecDepth 20000 in
theorem gX4_point_X4_isOne : GoodIn wsX4_point (va_wsS RX4 58 yX4_isOne wsX4_isOne) := goodIn_app (goodIn_of _ (by decide +kernel)) ggX4_point_X4_isOne
set_option maxRecDepth 20000 in
theorem ggX4_point_X4_in : GoodIn wsX4_point wsX4_in := goodIn_r _ [8] (by decide +kernel) (by decide +kernel)
set_option maxRecDepth 20000 in
theorem gX4_point_X4_in : GoodIn wsX4_point (va_wsS RX4 33 yX4_in wsX4_in) := goodIn_app (goodIn_of _ (by decide +kernel)) ggX4_point_X4_in
set_option maxRecDepth 20000 in
theorem ggX4_point_X4_change : GoodIn wsX4_point wsX4_change := goodIn_r _ [12, 13, 14, 15, 16, 4, 17, 18, 19, 20, 21, 22, 23, 24, 25, 26, 27, 28, 29, 30, 31] (by decide +kernel) (by decide +kernel)
set_option maxRecDepth 20000 in
theorem gX4_point_X4_change : GoodIn wsX4_point (wsV RX4 62 RX4 yX4_change wsX4_change) := goodIn_app (goodIn_of _ (by decide +kernel)) ggX4_point_X4_change
theorem dX4_point_0 : decode cX4_point 0 = .ok (.aload_n 0, 1) := by decide +kernel
theorem dX4_point_1 : decode cX4_point 1 = .ok (.iload_n 1, 1) := by decide +kernel
theorem dX4_point_2 : decode cX4_point 2 = .ok (.invokestatic 58, 3) := by decide +kernel
theorem dX4_point_5 : decode cX4_point 5 = .ok (.ifCond .ne 7, 3) := by decide +kernel
theorem dX4_point_8 : decode cX4_point 8 = .ok (.iconst 1, 1) := by decide +kernel
theorem dX4_point_9 : decode cX4_point 9 = .ok (.goto 21, 3) := by decide +kernel
theorem dX4_point_12 : decode cX4_point 12 = .ok (.iload_n 2, 1) := by decide +kernel
theorem dX4_point_13 : decode cX4_point 13 = .ok (.sipush (-9999), 3) := by decide +kernel
theorem dX4_point_16 : decode cX4_point 16 = .ok (.sipush 9999, 3) := by decide +kernel
theorem dX4_point_19 : decode cX4_point 19 = .ok (.invokestatic 33, 3) := by decide +kernel
theorem dX4_point_22 : decode cX4_point 22 = .ok (.ifCond .eq 7, 3) := by decide +kernel
theorem dX4_point_25 : decode cX4_point 25 = .ok (.iconst 0, 1) := by decide +kernel
theorem dX4_point_26 : decode cX4_point 26 = .ok (.goto 4, 3) := by decide +kernel
theorem dX4_point_29 : decode cX4_point 29 = .ok (.iconst 2, 1) := by decide +kernel
theorem dX4_point_30 : decode cX4_point 30 = .ok (.putfield 29, 3) := by decide +kernel
theorem dX4_point_33 : decode cX4_point 33 = .ok (.aload_n 0, 1) := by decide +kernel
theorem dX4_point_34 : decode cX4_point 34 = .ok (.getfield 29, 3) := by decide +kernel
theorem dX4_point_37 : decode cX4_point 37 = .ok (.ifCond .le 7, 3) := by decide +kernel
theorem dX4_point_40 : decode cX4_point 40 = .ok (.iconst 0, 1) := by decide +kernel
theorem dX4_point_41 : decode cX4_point 41 = .ok (.goto 12, 3) := by decide +kernel
theorem dX4_point_44 : decode cX4_point 44 = .ok (.aload_n 0, 1) := by decide +kernel
theorem dX4_point_45 : decode cX4_point 45 = .ok (.bipush 16, 2) := by decide +kernel
theorem dX4_point_47 : decode cX4_point 47 = .ok (.iload_n 1, 1) := by decide +kernel
theorem dX4_point_48 : decode cX4_point 48 = .ok (.iadd, 1) := by decide +kernel
theorem dX4_point_49 : decode cX4_point 49 = .ok (.iload_n 2, 1) := by decide +kernel
theorem dX4_point_50 : decode cX4_point 50 = .ok (.invokevirtual 62, 3) := by decide +kernel
theorem dX4_point_53 : decode cX4_point 53 = .ok (.ireturn, 1) := by decide +kernel
set_option maxRecDepth 20000 in
theorem ggX4_copy_X4_record : GoodIn wsX4_copy wsX4_record := goodIn_r _ [7, 8, 9, 2, 25, 26, 27, 28, 29, 30, 31, 32, 33, 34, 35, 36] (by decide +kernel) (by decide +kernel)
set_option maxRecDepth 20000 in
theorem gX4_copy_X4_record : GoodIn wsX4_copy (wsV RX4 55 RX4 yX4_record wsX4_record) := goodIn_app (goodIn_of _ (by decide +kernel)) ggX4_copy_X4_record
set_option maxRecDepth 20000 in
theorem ggX4_copy_X4_difference : GoodIn wsX4_copy wsX4_difference := goodIn_r _ [13, 2, 14, 15, 16, 6, 17, 18, 19, 20, 21, 22, 23, 24, 25, 26, 27, 28, 29, 30, 31, 32, 33, 34, 35, 36] (by decide +kernel) (by decide +kernel)
set_option maxRecDepth 20000 in
theorem gX4_copy_X4_difference : GoodIn wsX4_copy (wsV RX4 68 RX4 yX4_difference wsX4_difference) := goodIn_app (goodIn_of _ (by decide +kernel)) ggX4_copy_X4_difference
set_option maxRecDepth 20000 in
theorem ggX4_copy_X4_traceAt : GoodIn wsX4_copy wsX4_traceAt := goodIn_r _ [17, 18, 19, 20, 6, 21, 2, 22, 23, 24, 25, 26, 27, 28, 29, 30, 31, 32, 33, 34, 35, 36] (by decide +kernel) (by decide +kernel)
set_option maxRecDepth 20000 in
theorem gX4_copy_X4_traceAt : GoodIn wsX4_copy (wsV RX4 45 RX4 yX4_traceAt wsX4_traceAt) := goodIn_app (goodIn_of _ (by decide +kernel)) ggX4_copy_X4_traceAt
theorem dX4_copy_0 : decode cX4_copy 0 = .ok (.aload_n 0, 1) := by decide +kernel
theorem dX4_copy_1 : decode cX4_copy 1 = .ok (.iconst 0, 1) := by decide +kernel
theorem dX4_copy_2 : decode cX4_copy 2 = .ok (.putfield 29, 3) := by decide +kernel
theorem dX4_copy_5 : decode cX4_copy 5 = .ok (.aload_n 0, 1) := by decide +kernel
theorem dX4_copy_6 : decode cX4_copy 6 = .ok (.invokevirtual 55, 3) := by decide +kernel
theorem dX4_copy_9 : decode cX4_copy 9 = .ok (.iconst 0, 1) := by decide +kernel
theorem dX4_copy_10 : decode cX4_copy 10 = .ok (.istore_n 1, 1) := by decide +kernel
theorem dX4_copy_11 : decode cX4_copy 11 = .ok (.iconst 0, 1) := by decide +kernel
theorem dX4_copy_12 : decode cX4_copy 12 = .ok (.istore_n 2, 1) := by decide +kernel
theorem dX4_copy_13 : decode cX4_copy 13 = .ok (.iload_n 2, 1) := by decide +kernel
theorem dX4_copy_14 : decode cX4_copy 14 = .ok (.bipush 8, 2) := by decide +kernel
theorem dX4_copy_16 : decode cX4_copy 16 = .ok (.if_icmp .ge 39, 3) := by decide +kernel
theorem dX4_copy_19 : decode cX4_copy 19 = .ok (.iload_n 1, 1) := by decide +kernel
theorem dX4_copy_20 : decode cX4_copy 20 = .ok (.aload_n 0, 1) := by decide +kernel
theorem dX4_copy_21 : decode cX4_copy 21 = .ok (.iload_n 2, 1) := by decide +kernel
theorem dX4_copy_22 : decode cX4_copy 22 = .ok (.invokevirtual 68, 3) := by decide +kernel
theorem dX4_copy_25 : decode cX4_copy 25 = .ok (.ifCond .eq 7, 3) := by decide +kernel
theorem dX4_copy_28 : decode cX4_copy 28 = .ok (.iconst 1, 1) := by decide +kernel
theorem dX4_copy_29 : decode cX4_copy 29 = .ok (.goto 4, 3) := by decide +kernel
theorem dX4_copy_32 : decode cX4_copy 32 = .ok (.iconst 0, 1) := by decide +kernel
theorem dX4_copy_33 : decode cX4_copy 33 = .ok (.iadd, 1) := by decide +kernel
theorem dX4_copy_34 : decode cX4_copy 34 = .ok (.istore_n 1, 1) := by decide +kernel
theorem dX4_copy_35 : decode cX4_copy 35 = .ok (.aload_n 0, 1) := by decide +kernel
theorem dX4_copy_36 : decode cX4_copy 36 = .ok (.getfield 7, 3) := by decide +kernel
theorem dX4_copy_39 : decode cX4_copy 39 = .ok (.bipush 16, 2) := by decide +kernel
theorem dX4_copy_41 : decode cX4_copy 41 = .ok (.iload_n 2, 1) := by decide +kernel
theorem dX4_copy_42 : decode cX4_copy 42 = .ok (.iadd, 1) := by decide +kernel
theorem dX4_copy_43 : decode cX4_copy 43 = .ok (.aload_n 0, 1) := by decide +kernel
theorem dX4_copy_44 : decode cX4_copy 44 = .ok (.iload_n 2, 1) := by decide +kernel
theorem dX4_copy_45 : decode cX4_copy 45 = .ok (.invokevirtual 45, 3) := by decide +kernel
theorem dX4_copy_48 : decode cX4_copy 48 = .ok (.iastore, 1) := by decide +kernel
theorem dX4_copy_49 : decode cX4_copy 49 = .ok (.iinc 2 1, 3) := by decide +kernel
theorem dX4_copy_52 : decode cX4_copy 52 = .ok (.goto (-39), 3) := by decide +kernel
theorem dX4_copy_55 : decode cX4_copy 55 = .ok (.iload_n 1, 1) := by decide +kernel
theorem dX4_copy_56 : decode cX4_copy 56 = .ok (.ireturn, 1) := by decide +kernel
set_option maxRecDepth 20000 in
theorem ggX4_fit_X4_record : GoodIn wsX4_fit wsX4_record := goodIn_r _ [7, 8, 9, 2, 17, 18, 19, 20, 21, 22, 23, 24, 25, 26, 27, 28] (by decide +kernel) (by decide +kernel)
set_option maxRecDepth 20000 in
theorem gX4_fit_X4_record : GoodIn wsX4_fit (wsV RX4 55 RX4 yX4_record wsX4_record) := goodIn_app (goodIn_of _ (by decide +kernel)) ggX4_fit_X4_record
set_option maxRecDepth 20000 in
theorem ggX4_fit_X4_ofPattern : GoodIn wsX4_fit wsX4_ofPattern := goodIn_r _ [13, 2, 14, 15, 6, 16, 17, 18, 19, 20, 21, 22, 23, 24, 25, 26, 27, 28] (by decide +kernel) (by decide +kernel)
set_option maxRecDepth 20000 in
theorem gX4_fit_X4_ofPattern : GoodIn wsX4_fit (wsV RX4 71 RX4 yX4_ofPattern wsX4_ofPattern) := goodIn_app (goodIn_of _ (by decide +kernel)) ggX4_fit_X4_ofPattern
theorem dX4_fit_0 : decode cX4_fit 0 = .ok (.aload_n 0, 1) := by decide +kernel
theorem dX4_fit_1 : decode cX4_fit 1 = .ok (.iconst 0, 1) := by decide +kernel
theorem dX4_fit_2 : decode cX4_fit 2 = .ok (.putfield 29, 3) := by decide +kernel
theorem dX4_fit_5 : decode cX4_fit 5 = .ok (.aload_n 0, 1) := by decide +kernel
theorem dX4_fit_6 : decode cX4_fit 6 = .ok (.invokevirtual 55, 3) := by decide +kernel
theorem dX4_fit_9 : decode cX4_fit 9 = .ok (.iconst 0, 1) := by decide +kernel
theorem dX4_fit_10 : decode cX4_fit 10 = .ok (.istore_n 1, 1) := by decide +kernel
theorem dX4_fit_11 : decode cX4_fit 11 = .ok (.iconst 0, 1) := by decide +kernel
theorem dX4_fit_12 : decode cX4_fit 12 = .ok (.istore_n 2, 1) := by decide +kernel
theorem dX4_fit_13 : decode cX4_fit 13 = .ok (.iload_n 2, 1) := by decide +kernel
theorem dX4_fit_14 : decode cX4_fit 14 = .ok (.bipush 8, 2) := by decide +kernel
theorem dX4_fit_16 : decode cX4_fit 16 = .ok (.if_icmp .ge 74, 3) := by decide +kernel
theorem dX4_fit_19 : decode cX4_fit 19 = .ok (.aload_n 0, 1) := by decide +kernel
theorem dX4_fit_20 : decode cX4_fit 20 = .ok (.iload_n 2, 1) := by decide +kernel
theorem dX4_fit_21 : decode cX4_fit 21 = .ok (.invokevirtual 71, 3) := by decide +kernel
theorem dX4_fit_24 : decode cX4_fit 24 = .ok (.istore_n 3, 1) := by decide +kernel
theorem dX4_fit_25 : decode cX4_fit 25 = .ok (.iload_n 3, 1) := by decide +kernel
theorem dX4_fit_26 : decode cX4_fit 26 = .ok (.bipush (-99), 2) := by decide +kernel
theorem dX4_fit_28 : decode cX4_fit 28 = .ok (.if_icmp .ge 8, 3) := by decide +kernel
theorem dX4_fit_31 : decode cX4_fit 31 = .ok (.bipush (-99), 2) := by decide +kernel
theorem dX4_fit_33 : decode cX4_fit 33 = .ok (.goto 15, 3) := by decide +kernel
theorem dX4_fit_36 : decode cX4_fit 36 = .ok (.iload_n 3, 1) := by decide +kernel
theorem dX4_fit_37 : decode cX4_fit 37 = .ok (.bipush 99, 2) := by decide +kernel
theorem dX4_fit_39 : decode cX4_fit 39 = .ok (.if_icmp .le 8, 3) := by decide +kernel
theorem dX4_fit_42 : decode cX4_fit 42 = .ok (.bipush 99, 2) := by decide +kernel
theorem dX4_fit_44 : decode cX4_fit 44 = .ok (.goto 4, 3) := by decide +kernel
theorem dX4_fit_47 : decode cX4_fit 47 = .ok (.iload_n 3, 1) := by decide +kernel
theorem dX4_fit_48 : decode cX4_fit 48 = .ok (.istore_n 3, 1) := by decide +kernel
theorem dX4_fit_49 : decode cX4_fit 49 = .ok (.iload_n 1, 1) := by decide +kernel
theorem dX4_fit_50 : decode cX4_fit 50 = .ok (.iload_n 3, 1) := by decide +kernel
theorem dX4_fit_51 : decode cX4_fit 51 = .ok (.aload_n 0, 1) := by decide +kernel
theorem dX4_fit_52 : decode cX4_fit 52 = .ok (.getfield 7, 3) := by decide +kernel
theorem dX4_fit_55 : decode cX4_fit 55 = .ok (.iload_n 2, 1) := by decide +kernel
theorem dX4_fit_56 : decode cX4_fit 56 = .ok (.iaload, 1) := by decide +kernel
theorem dX4_fit_57 : decode cX4_fit 57 = .ok (.if_icmp .ne 7, 3) := by decide +kernel
theorem dX4_fit_60 : decode cX4_fit 60 = .ok (.iconst 0, 1) := by decide +kernel
theorem dX4_fit_61 : decode cX4_fit 61 = .ok (.goto 4, 3) := by decide +kernel
theorem dX4_fit_64 : decode cX4_fit 64 = .ok (.iconst 1, 1) := by decide +kernel
theorem dX4_fit_65 : decode cX4_fit 65 = .ok (.iadd, 1) := by decide +kernel
theorem dX4_fit_66 : decode cX4_fit 66 = .ok (.istore_n 1, 1) := by decide +kernel
theorem dX4_fit_67 : decode cX4_fit 67 = .ok (.aload_n 0, 1) := by decide +kernel
theorem dX4_fit_68 : decode cX4_fit 68 = .ok (.getfield 7, 3) := by decide +kernel
theorem dX4_fit_71 : decode cX4_fit 71 = .ok (.iload_n 2, 1) := by decide +kernel
theorem dX4_fit_72 : decode cX4_fit 72 = .ok (.iload_n 3, 1) := by decide +kernel
theorem dX4_fit_73 : decode cX4_fit 73 = .ok (.iastore, 1) := by decide +kernel
theorem dX4_fit_74 : decode cX4_fit 74 = .ok (.aload_n 0, 1) := by decide +kernel
theorem dX4_fit_75 : decode cX4_fit 75 = .ok (.getfield 7, 3) := by decide +kernel
theorem dX4_fit_78 : decode cX4_fit 78 = .ok (.bipush 8, 2) := by decide +kernel
theorem dX4_fit_80 : decode cX4_fit 80 = .ok (.iload_n 2, 1) := by decide +kernel
theorem dX4_fit_81 : decode cX4_fit 81 = .ok (.iadd, 1) := by decide +kernel
theorem dX4_fit_82 : decode cX4_fit 82 = .ok (.iconst 0, 1) := by decide +kernel
theorem dX4_fit_83 : decode cX4_fit 83 = .ok (.iastore, 1) := by decide +kernel
theorem dX4_fit_84 : decode cX4_fit 84 = .ok (.iinc 2 1, 3) := by decide +kernel
theorem dX4_fit_87 : decode cX4_fit 87 = .ok (.goto (-74), 3) := by decide +kernel
theorem dX4_fit_90 : decode cX4_fit 90 = .ok (.aload_n 0, 1) := by decide +kernel
theorem dX4_fit_91 : decode cX4_fit 91 = .ok (.getfield 7, 3) := by decide +kernel
theorem dX4_fit_94 : decode cX4_fit 94 = .ok (.bipush 24, 2) := by decide +kernel
theorem dX4_fit_96 : decode cX4_fit 96 = .ok (.dup2, 1) := by decide +kernel
theorem dX4_fit_97 : decode cX4_fit 97 = .ok (.iaload, 1) := by decide +kernel
theorem dX4_fit_98 : decode cX4_fit 98 = .ok (.iload_n 1, 1) := by decide +kernel
theorem dX4_fit_99 : decode cX4_fit 99 = .ok (.iadd, 1) := by decide +kernel
theorem dX4_fit_100 : decode cX4_fit 100 = .ok (.iastore, 1) := by decide +kernel
theorem dX4_fit_101 : decode cX4_fit 101 = .ok (.iload_n 1, 1) := by decide +kernel
theorem dX4_fit_102 : decode cX4_fit 102 = .ok (.ireturn, 1) := by decide +kernel
set_option maxRecDepth 20000 in
theorem ggX4_append_X4_in : GoodIn wsX4_append wsX4_in := goodIn_r _ [7] (by decide +kernel) (by decide +kernel)
set_option maxRecDepth 20000 in
theorem gX4_append_X4_in : GoodIn wsX4_append (va_wsS RX4 33 yX4_in wsX4_in) := goodIn_app (goodIn_of _ (by decide +kernel)) ggX4_append_X4_in
theorem dX4_append_0 : decode cX4_append 0 = .ok (.aload_n 0, 1) := by decide +kernel
theorem dX4_append_1 : decode cX4_append 1 = .ok (.iload_n 1, 1) := by decide +kernel
theorem dX4_append_2 : decode cX4_append 2 = .ok (.bipush 33, 2) := by decide +kernel
theorem dX4_append_4 : decode cX4_append 4 = .ok (.bipush 126, 2) := by decide +kernel
theorem dX4_append_6 : decode cX4_append 6 = .ok (.invokestatic 33, 3) := by decide +kernel
theorem dX4_append_9 : decode cX4_append 9 = .ok (.ifCond .ne 7, 3) := by decide +kernel
theorem dX4_append_12 : decode cX4_append 12 = .ok (.iconst 1, 1) := by decide +kernel
theorem dX4_append_13 : decode cX4_append 13 = .ok (.goto 17, 3) := by decide +kernel
theorem dX4_append_16 : decode cX4_append 16 = .ok (.aload_n 0, 1) := by decide +kernel
theorem dX4_append_17 : decode cX4_append 17 = .ok (.getfield 74, 3) := by decide +kernel
theorem dX4_append_20 : decode cX4_append 20 = .ok (.bipush 60, 2) := by decide +kernel
theorem dX4_append_22 : decode cX4_append 22 = .ok (.if_icmp .ne 7, 3) := by decide +kernel
theorem dX4_append_25 : decode cX4_append 25 = .ok (.iconst 2, 1) := by decide +kernel
theorem dX4_append_26 : decode cX4_append 26 = .ok (.goto 4, 3) := by decide +kernel
theorem dX4_append_29 : decode cX4_append 29 = .ok (.iconst 0, 1) := by decide +kernel
theorem dX4_append_30 : decode cX4_append 30 = .ok (.putfield 29, 3) := by decide +kernel
theorem dX4_append_33 : decode cX4_append 33 = .ok (.aload_n 0, 1) := by decide +kernel
theorem dX4_append_34 : decode cX4_append 34 = .ok (.getfield 29, 3) := by decide +kernel
theorem dX4_append_37 : decode cX4_append 37 = .ok (.ifCond .le 5, 3) := by decide +kernel
theorem dX4_append_40 : decode cX4_append 40 = .ok (.iconst 0, 1) := by decide +kernel
theorem dX4_append_41 : decode cX4_append 41 = .ok (.ireturn, 1) := by decide +kernel
theorem dX4_append_42 : decode cX4_append 42 = .ok (.aload_n 0, 1) := by decide +kernel
theorem dX4_append_43 : decode cX4_append 43 = .ok (.getfield 23, 3) := by decide +kernel
theorem dX4_append_46 : decode cX4_append 46 = .ok (.aload_n 0, 1) := by decide +kernel
theorem dX4_append_47 : decode cX4_append 47 = .ok (.getfield 74, 3) := by decide +kernel
theorem dX4_append_50 : decode cX4_append 50 = .ok (.iload_n 1, 1) := by decide +kernel
theorem dX4_append_51 : decode cX4_append 51 = .ok (.iastore, 1) := by decide +kernel
theorem dX4_append_52 : decode cX4_append 52 = .ok (.aload_n 0, 1) := by decide +kernel
theorem dX4_append_53 : decode cX4_append 53 = .ok (.dup, 1) := by decide +kernel
theorem dX4_append_54 : decode cX4_append 54 = .ok (.getfield 74, 3) := by decide +kernel
theorem dX4_append_57 : decode cX4_append 57 = .ok (.iconst 1, 1) := by decide +kernel
theorem dX4_append_58 : decode cX4_append 58 = .ok (.iadd, 1) := by decide +kernel
theorem dX4_append_59 : decode cX4_append 59 = .ok (.putfield 74, 3) := by decide +kernel
theorem dX4_append_62 : decode cX4_append 62 = .ok (.aload_n 0, 1) := by decide +kernel
theorem dX4_append_63 : decode cX4_append 63 = .ok (.getfield 74, 3) := by decide +kernel
theorem dX4_append_66 : decode cX4_append 66 = .ok (.ireturn, 1) := by decide +kernel
theorem dX4_clearBuffer_0 : decode cX4_clearBuffer 0 = .ok (.aload_n 0, 1) := by decide +kernel
theorem dX4_clearBuffer_1 : decode cX4_clearBuffer 1 = .ok (.iconst 0, 1) := by decide +kernel
theorem dX4_clearBuffer_2 : decode cX4_clearBuffer 2 = .ok (.putfield 29, 3) := by decide +kernel
theorem dX4_clearBuffer_5 : decode cX4_clearBuffer 5 = .ok (.aload_n 0, 1) := by decide +kernel
theorem dX4_clearBuffer_6 : decode cX4_clearBuffer 6 = .ok (.getfield 74, 3) := by decide +kernel
theorem dX4_clearBuffer_9 : decode cX4_clearBuffer 9 = .ok (.istore_n 1, 1) := by decide +kernel
theorem dX4_clearBuffer_10 : decode cX4_clearBuffer 10 = .ok (.aload_n 0, 1) := by decide +kernel
theorem dX4_clearBuffer_11 : decode cX4_clearBuffer 11 = .ok (.iconst 0, 1) := by decide +kernel
theorem dX4_clearBuffer_12 : decode cX4_clearBuffer 12 = .ok (.putfield 74, 3) := by decide +kernel
theorem dX4_clearBuffer_15 : decode cX4_clearBuffer 15 = .ok (.iload_n 1, 1) := by decide +kernel
theorem dX4_clearBuffer_16 : decode cX4_clearBuffer 16 = .ok (.ireturn, 1) := by decide +kernel
theorem dX4_at_0 : decode cX4_at 0 = .ok (.iload_n 1, 1) := by decide +kernel
theorem dX4_at_1 : decode cX4_at 1 = .ok (.aload_n 0, 1) := by decide +kernel
theorem dX4_at_2 : decode cX4_at 2 = .ok (.getfield 74, 3) := by decide +kernel
theorem dX4_at_5 : decode cX4_at 5 = .ok (.if_icmp .ge 12, 3) := by decide +kernel
theorem dX4_at_8 : decode cX4_at 8 = .ok (.aload_n 0, 1) := by decide +kernel
theorem dX4_at_9 : decode cX4_at 9 = .ok (.getfield 23, 3) := by decide +kernel
theorem dX4_at_12 : decode cX4_at 12 = .ok (.iload_n 1, 1) := by decide +kernel
theorem dX4_at_13 : decode cX4_at 13 = .ok (.iaload, 1) := by decide +kernel
theorem dX4_at_14 : decode cX4_at 14 = .ok (.goto 4, 3) := by decide +kernel
theorem dX4_at_17 : decode cX4_at 17 = .ok (.iconst 0, 1) := by decide +kernel
theorem dX4_at_18 : decode cX4_at 18 = .ok (.ireturn, 1) := by decide +kernel
set_option maxRecDepth 20000 in
theorem ggX4_readPart_X4_at : GoodIn wsX4_readPart wsX4_at := goodIn_r _ [8, 9, 10, 17, 18, 19, 20, 21, 22, 23, 24, 25, 26, 27, 28] (by decide +kernel) (by decide +kernel)
set_option maxRecDepth 20000 in
theorem gX4_readPart_X4_at : GoodIn wsX4_readPart (wsV RX4 77 RX4 yX4_at wsX4_at) := goodIn_app (goodIn_of _ (by decide +kernel)) ggX4_readPart_X4_at
set_option maxRecDepth 20000 in
theorem ggX4_readPart_X4_isOne : GoodIn wsX4_readPart wsX4_isOne := goodIn_r _ [13, 14, 15, 7, 16] (by decide +kernel) (by decide +kernel)
set_option maxRecDepth 20000 in
theorem gX4_readPart_X4_isOne : GoodIn wsX4_readPart (va_wsS RX4 58 yX4_isOne wsX4_isOne) := goodIn_app (goodIn_of _ (by decide +kernel)) ggX4_readPart_X4_isOne
set_option maxRecDepth 20000 in
theorem ggX4_readPart_X4_in : GoodIn wsX4_readPart wsX4_in := goodIn_r _ [16] (by decide +kernel) (by decide +kernel)
set_option maxRecDepth 20000 in
theorem gX4_readPart_X4_in : GoodIn wsX4_readPart (va_wsS RX4 33 yX4_in wsX4_in) := goodIn_app (goodIn_of _ (by decide +kernel)) ggX4_readPart_X4_in
theorem dX4_readPart_0 : decode cX4_readPart 0 = .ok (.aload_n 0, 1) := by decide +kernel
theorem dX4_readPart_1 : decode cX4_readPart 1 = .ok (.aload_n 0, 1) := by decide +kernel
theorem dX4_readPart_2 : decode cX4_readPart 2 = .ok (.iload_n 1, 1) := by decide +kernel
theorem dX4_readPart_3 : decode cX4_readPart 3 = .ok (.invokevirtual 77, 3) := by decide +kernel
theorem dX4_readPart_6 : decode cX4_readPart 6 = .ok (.bipush 97, 2) := by decide +kernel
theorem dX4_readPart_8 : decode cX4_readPart 8 = .ok (.isub, 1) := by decide +kernel
theorem dX4_readPart_9 : decode cX4_readPart 9 = .ok (.putfield 80, 3) := by decide +kernel
theorem dX4_readPart_12 : decode cX4_readPart 12 = .ok (.aload_n 0, 1) := by decide +kernel
theorem dX4_readPart_13 : decode cX4_readPart 13 = .ok (.aload_n 0, 1) := by decide +kernel
theorem dX4_readPart_14 : decode cX4_readPart 14 = .ok (.iload_n 1, 1) := by decide +kernel
theorem dX4_readPart_15 : decode cX4_readPart 15 = .ok (.iconst 1, 1) := by decide +kernel
theorem dX4_readPart_16 : decode cX4_readPart 16 = .ok (.iadd, 1) := by decide +kernel
theorem dX4_readPart_17 : decode cX4_readPart 17 = .ok (.invokevirtual 77, 3) := by decide +kernel
theorem dX4_readPart_20 : decode cX4_readPart 20 = .ok (.bipush 33, 2) := by decide +kernel
theorem dX4_readPart_22 : decode cX4_readPart 22 = .ok (.if_icmp .ne 7, 3) := by decide +kernel
theorem dX4_readPart_25 : decode cX4_readPart 25 = .ok (.iconst 1, 1) := by decide +kernel
theorem dX4_readPart_26 : decode cX4_readPart 26 = .ok (.goto 4, 3) := by decide +kernel
theorem dX4_readPart_29 : decode cX4_readPart 29 = .ok (.iconst 0, 1) := by decide +kernel
theorem dX4_readPart_30 : decode cX4_readPart 30 = .ok (.putfield 83, 3) := by decide +kernel
theorem dX4_readPart_33 : decode cX4_readPart 33 = .ok (.aload_n 0, 1) := by decide +kernel
theorem dX4_readPart_34 : decode cX4_readPart 34 = .ok (.getfield 80, 3) := by decide +kernel
theorem dX4_readPart_37 : decode cX4_readPart 37 = .ok (.invokestatic 58, 3) := by decide +kernel
theorem dX4_readPart_40 : decode cX4_readPart 40 = .ok (.ifCond .ne 7, 3) := by decide +kernel
theorem dX4_readPart_43 : decode cX4_readPart 43 = .ok (.iconst (-1), 1) := by decide +kernel
theorem dX4_readPart_44 : decode cX4_readPart 44 = .ok (.iload_n 1, 1) := by decide +kernel
theorem dX4_readPart_45 : decode cX4_readPart 45 = .ok (.isub, 1) := by decide +kernel
theorem dX4_readPart_46 : decode cX4_readPart 46 = .ok (.ireturn, 1) := by decide +kernel
theorem dX4_readPart_47 : decode cX4_readPart 47 = .ok (.aload_n 0, 1) := by decide +kernel
theorem dX4_readPart_48 : decode cX4_readPart 48 = .ok (.getfield 83, 3) := by decide +kernel
theorem dX4_readPart_51 : decode cX4_readPart 51 = .ok (.ifCond .eq 7, 3) := by decide +kernel
theorem dX4_readPart_54 : decode cX4_readPart 54 = .ok (.iload_n 1, 1) := by decide +kernel
theorem dX4_readPart_55 : decode cX4_readPart 55 = .ok (.iconst 2, 1) := by decide +kernel
theorem dX4_readPart_56 : decode cX4_readPart 56 = .ok (.iadd, 1) := by decide +kernel
theorem dX4_readPart_57 : decode cX4_readPart 57 = .ok (.ireturn, 1) := by decide +kernel
theorem dX4_readPart_58 : decode cX4_readPart 58 = .ok (.aload_n 0, 1) := by decide +kernel
theorem dX4_readPart_59 : decode cX4_readPart 59 = .ok (.iload_n 1, 1) := by decide +kernel
theorem dX4_readPart_60 : decode cX4_readPart 60 = .ok (.iconst 1, 1) := by decide +kernel
theorem dX4_readPart_61 : decode cX4_readPart 61 = .ok (.iadd, 1) := by decide +kernel
theorem dX4_readPart_62 : decode cX4_readPart 62 = .ok (.invokevirtual 77, 3) := by decide +kernel
theorem dX4_readPart_65 : decode cX4_readPart 65 = .ok (.bipush 61, 2) := by decide +kernel
theorem dX4_readPart_67 : decode cX4_readPart 67 = .ok (.if_icmp .eq 8, 3) := by decide +kernel
theorem dX4_readPart_70 : decode cX4_readPart 70 = .ok (.bipush (-2), 2) := by decide +kernel
theorem dX4_readPart_72 : decode cX4_readPart 72 = .ok (.iload_n 1, 1) := by decide +kernel
theorem dX4_readPart_73 : decode cX4_readPart 73 = .ok (.isub, 1) := by decide +kernel
theorem dX4_readPart_74 : decode cX4_readPart 74 = .ok (.ireturn, 1) := by decide +kernel
theorem dX4_readPart_75 : decode cX4_readPart 75 = .ok (.aload_n 0, 1) := by decide +kernel
theorem dX4_readPart_76 : decode cX4_readPart 76 = .ok (.iload_n 1, 1) := by decide +kernel
theorem dX4_readPart_77 : decode cX4_readPart 77 = .ok (.iconst 2, 1) := by decide +kernel
theorem dX4_readPart_78 : decode cX4_readPart 78 = .ok (.iadd, 1) := by decide +kernel
theorem dX4_readPart_79 : decode cX4_readPart 79 = .ok (.invokevirtual 77, 3) := by decide +kernel
theorem dX4_readPart_82 : decode cX4_readPart 82 = .ok (.bipush 45, 2) := by decide +kernel
theorem dX4_readPart_84 : decode cX4_readPart 84 = .ok (.if_icmp .ne 7, 3) := by decide +kernel
theorem dX4_readPart_87 : decode cX4_readPart 87 = .ok (.iconst 1, 1) := by decide +kernel
theorem dX4_readPart_88 : decode cX4_readPart 88 = .ok (.goto 4, 3) := by decide +kernel
theorem dX4_readPart_91 : decode cX4_readPart 91 = .ok (.iconst 0, 1) := by decide +kernel
theorem dX4_readPart_92 : decode cX4_readPart 92 = .ok (.istore_n 2, 1) := by decide +kernel
theorem dX4_readPart_93 : decode cX4_readPart 93 = .ok (.iload_n 2, 1) := by decide +kernel
theorem dX4_readPart_94 : decode cX4_readPart 94 = .ok (.ifCond .eq 9, 3) := by decide +kernel
theorem dX4_readPart_97 : decode cX4_readPart 97 = .ok (.iload_n 1, 1) := by decide +kernel
theorem dX4_readPart_98 : decode cX4_readPart 98 = .ok (.iconst 3, 1) := by decide +kernel
theorem dX4_readPart_99 : decode cX4_readPart 99 = .ok (.iadd, 1) := by decide +kernel
theorem dX4_readPart_100 : decode cX4_readPart 100 = .ok (.goto 6, 3) := by decide +kernel
theorem dX4_readPart_103 : decode cX4_readPart 103 = .ok (.iload_n 1, 1) := by decide +kernel
theorem dX4_readPart_104 : decode cX4_readPart 104 = .ok (.iconst 2, 1) := by decide +kernel
theorem dX4_readPart_105 : decode cX4_readPart 105 = .ok (.iadd, 1) := by decide +kernel
theorem dX4_readPart_106 : decode cX4_readPart 106 = .ok (.istore_n 3, 1) := by decide +kernel
theorem dX4_readPart_107 : decode cX4_readPart 107 = .ok (.aload_n 0, 1) := by decide +kernel
theorem dX4_readPart_108 : decode cX4_readPart 108 = .ok (.aload_n 0, 1) := by decide +kernel
theorem dX4_readPart_109 : decode cX4_readPart 109 = .ok (.iload_n 3, 1) := by decide +kernel
theorem dX4_readPart_110 : decode cX4_readPart 110 = .ok (.invokevirtual 77, 3) := by decide +kernel
theorem dX4_readPart_113 : decode cX4_readPart 113 = .ok (.bipush 48, 2) := by decide +kernel
theorem dX4_readPart_115 : decode cX4_readPart 115 = .ok (.isub, 1) := by decide +kernel
theorem dX4_readPart_116 : decode cX4_readPart 116 = .ok (.putfield 87, 3) := by decide +kernel
theorem dX4_readPart_119 : decode cX4_readPart 119 = .ok (.aload_n 0, 1) := by decide +kernel
theorem dX4_readPart_120 : decode cX4_readPart 120 = .ok (.getfield 87, 3) := by decide +kernel
theorem dX4_readPart_123 : decode cX4_readPart 123 = .ok (.iload_n 2, 1) := by decide +kernel
theorem dX4_readPart_124 : decode cX4_readPart 124 = .ok (.ifCond .eq 7, 3) := by decide +kernel
theorem dX4_readPart_127 : decode cX4_readPart 127 = .ok (.iconst 1, 1) := by decide +kernel
theorem dX4_readPart_128 : decode cX4_readPart 128 = .ok (.goto 4, 3) := by decide +kernel
theorem dX4_readPart_131 : decode cX4_readPart 131 = .ok (.iconst 0, 1) := by decide +kernel
theorem dX4_readPart_132 : decode cX4_readPart 132 = .ok (.bipush 9, 2) := by decide +kernel
theorem dX4_readPart_134 : decode cX4_readPart 134 = .ok (.invokestatic 33, 3) := by decide +kernel
theorem dX4_readPart_137 : decode cX4_readPart 137 = .ok (.ifCond .ne 7, 3) := by decide +kernel
theorem dX4_readPart_140 : decode cX4_readPart 140 = .ok (.iconst (-1), 1) := by decide +kernel
theorem dX4_readPart_141 : decode cX4_readPart 141 = .ok (.iload_n 3, 1) := by decide +kernel
theorem dX4_readPart_142 : decode cX4_readPart 142 = .ok (.isub, 1) := by decide +kernel
theorem dX4_readPart_143 : decode cX4_readPart 143 = .ok (.ireturn, 1) := by decide +kernel
theorem dX4_readPart_144 : decode cX4_readPart 144 = .ok (.iinc 3 1, 3) := by decide +kernel
theorem dX4_readPart_147 : decode cX4_readPart 147 = .ok (.aload_n 0, 1) := by decide +kernel
theorem dX4_readPart_148 : decode cX4_readPart 148 = .ok (.getfield 87, 3) := by decide +kernel
theorem dX4_readPart_151 : decode cX4_readPart 151 = .ok (.ifCond .le 41, 3) := by decide +kernel
theorem dX4_readPart_154 : decode cX4_readPart 154 = .ok (.aload_n 0, 1) := by decide +kernel
theorem dX4_readPart_155 : decode cX4_readPart 155 = .ok (.iload_n 3, 1) := by decide +kernel
theorem dX4_readPart_156 : decode cX4_readPart 156 = .ok (.invokevirtual 77, 3) := by decide +kernel
theorem dX4_readPart_159 : decode cX4_readPart 159 = .ok (.bipush 48, 2) := by decide +kernel
theorem dX4_readPart_161 : decode cX4_readPart 161 = .ok (.bipush 57, 2) := by decide +kernel
theorem dX4_readPart_163 : decode cX4_readPart 163 = .ok (.invokestatic 33, 3) := by decide +kernel
theorem dX4_readPart_166 : decode cX4_readPart 166 = .ok (.ifCond .eq 26, 3) := by decide +kernel
theorem dX4_readPart_169 : decode cX4_readPart 169 = .ok (.aload_n 0, 1) := by decide +kernel
theorem dX4_readPart_170 : decode cX4_readPart 170 = .ok (.bipush 10, 2) := by decide +kernel
theorem dX4_readPart_172 : decode cX4_readPart 172 = .ok (.aload_n 0, 1) := by decide +kernel
theorem dX4_readPart_173 : decode cX4_readPart 173 = .ok (.getfield 87, 3) := by decide +kernel
theorem dX4_readPart_176 : decode cX4_readPart 176 = .ok (.imul, 1) := by decide +kernel
theorem dX4_readPart_177 : decode cX4_readPart 177 = .ok (.aload_n 0, 1) := by decide +kernel
theorem dX4_readPart_178 : decode cX4_readPart 178 = .ok (.iload_n 3, 1) := by decide +kernel
theorem dX4_readPart_179 : decode cX4_readPart 179 = .ok (.invokevirtual 77, 3) := by decide +kernel
theorem dX4_readPart_182 : decode cX4_readPart 182 = .ok (.iadd, 1) := by decide +kernel
theorem dX4_readPart_183 : decode cX4_readPart 183 = .ok (.bipush 48, 2) := by decide +kernel
theorem dX4_readPart_185 : decode cX4_readPart 185 = .ok (.isub, 1) := by decide +kernel
theorem dX4_readPart_186 : decode cX4_readPart 186 = .ok (.putfield 87, 3) := by decide +kernel
theorem dX4_readPart_189 : decode cX4_readPart 189 = .ok (.iinc 3 1, 3) := by decide +kernel
theorem dX4_readPart_192 : decode cX4_readPart 192 = .ok (.aload_n 0, 1) := by decide +kernel
theorem dX4_readPart_193 : decode cX4_readPart 193 = .ok (.iload_n 2, 1) := by decide +kernel
theorem dX4_readPart_194 : decode cX4_readPart 194 = .ok (.ifCond .eq 11, 3) := by decide +kernel
theorem dX4_readPart_197 : decode cX4_readPart 197 = .ok (.aload_n 0, 1) := by decide +kernel
theorem dX4_readPart_198 : decode cX4_readPart 198 = .ok (.getfield 87, 3) := by decide +kernel
theorem dX4_readPart_201 : decode cX4_readPart 201 = .ok (.ineg, 1) := by decide +kernel
theorem dX4_readPart_202 : decode cX4_readPart 202 = .ok (.goto 7, 3) := by decide +kernel
theorem dX4_readPart_205 : decode cX4_readPart 205 = .ok (.aload_n 0, 1) := by decide +kernel
theorem dX4_readPart_206 : decode cX4_readPart 206 = .ok (.getfield 87, 3) := by decide +kernel
theorem dX4_readPart_209 : decode cX4_readPart 209 = .ok (.putfield 87, 3) := by decide +kernel
theorem dX4_readPart_212 : decode cX4_readPart 212 = .ok (.iload_n 3, 1) := by decide +kernel
theorem dX4_readPart_213 : decode cX4_readPart 213 = .ok (.ireturn, 1) := by decide +kernel
set_option maxRecDepth 20000 in
theorem ggX4_findError_X4_readPart : GoodIn wsX4_findError wsX4_readPart := goodIn_r _ [7, 8, 9, 10, 11, 12, 13, 6, 14, 1, 2, 15, 16, 17, 18, 19, 20, 21, 22, 23, 24, 25, 26, 27, 28, 29, 30, 31, 32] (by decide +kernel) (by decide +kernel)
set_option maxRecDepth 20000 in
theorem gX4_findError_X4_readPart : GoodIn wsX4_findError (wsV RX4 90 RX4 yX4_readPart wsX4_readPart) := goodIn_app (goodIn_of _ (by decide +kernel)) ggX4_findError_X4_readPart
theorem dX4_findError_0 : decode cX4_findError 0 = .ok (.iconst 0, 1) := by decide +kernel
theorem dX4_findError_1 : decode cX4_findError 1 = .ok (.istore_n 1, 1) := by decide +kernel
theorem dX4_findError_2 : decode cX4_findError 2 = .ok (.aload_n 0, 1) := by decide +kernel
theorem dX4_findError_3 : decode cX4_findError 3 = .ok (.iload_n 1, 1) := by decide +kernel
theorem dX4_findError_4 : decode cX4_findError 4 = .ok (.invokevirtual 90, 3) := by decide +kernel
theorem dX4_findError_7 : decode cX4_findError 7 = .ok (.istore_n 1, 1) := by decide +kernel
theorem dX4_findError_8 : decode cX4_findError 8 = .ok (.iload_n 1, 1) := by decide +kernel
theorem dX4_findError_9 : decode cX4_findError 9 = .ok (.ifCond .ge 7, 3) := by decide +kernel
theorem dX4_findError_12 : decode cX4_findError 12 = .ok (.iconst (-1), 1) := by decide +kernel
theorem dX4_findError_13 : decode cX4_findError 13 = .ok (.iload_n 1, 1) := by decide +kernel
theorem dX4_findError_14 : decode cX4_findError 14 = .ok (.isub, 1) := by decide +kernel
theorem dX4_findError_15 : decode cX4_findError 15 = .ok (.ireturn, 1) := by decide +kernel
theorem dX4_findError_16 : decode cX4_findError 16 = .ok (.iload_n 1, 1) := by decide +kernel
theorem dX4_findError_17 : decode cX4_findError 17 = .ok (.aload_n 0, 1) := by decide +kernel
theorem dX4_findError_18 : decode cX4_findError 18 = .ok (.getfield 74, 3) := by decide +kernel
theorem dX4_findError_21 : decode cX4_findError 21 = .ok (.if_icmp .ne 5, 3) := by decide +kernel
theorem dX4_findError_24 : decode cX4_findError 24 = .ok (.iconst (-1), 1) := by decide +kernel
theorem dX4_findError_25 : decode cX4_findError 25 = .ok (.ireturn, 1) := by decide +kernel
theorem dX4_findError_26 : decode cX4_findError 26 = .ok (.aload_n 0, 1) := by decide +kernel
theorem dX4_findError_27 : decode cX4_findError 27 = .ok (.getfield 23, 3) := by decide +kernel
theorem dX4_findError_30 : decode cX4_findError 30 = .ok (.iload_n 1, 1) := by decide +kernel
theorem dX4_findError_31 : decode cX4_findError 31 = .ok (.iaload, 1) := by decide +kernel
theorem dX4_findError_32 : decode cX4_findError 32 = .ok (.bipush 59, 2) := by decide +kernel
theorem dX4_findError_34 : decode cX4_findError 34 = .ok (.if_icmp .eq 5, 3) := by decide +kernel
theorem dX4_findError_37 : decode cX4_findError 37 = .ok (.iload_n 1, 1) := by decide +kernel
theorem dX4_findError_38 : decode cX4_findError 38 = .ok (.ireturn, 1) := by decide +kernel
theorem dX4_findError_39 : decode cX4_findError 39 = .ok (.iinc 1 1, 3) := by decide +kernel
theorem dX4_findError_42 : decode cX4_findError 42 = .ok (.goto (-40), 3) := by decide +kernel
set_option maxRecDepth 20000 in
theorem ggX4_firstError_X4_findError : GoodIn wsX4_firstError wsX4_findError := goodIn_r _ [7, 2, 8, 9, 10, 11, 6, 12, 13, 14, 15, 16, 17, 18, 19, 20, 21, 22, 23, 24, 25, 26, 27, 28, 29, 30, 31, 32, 33, 34, 35, 36, 37] (by decide +kernel) (by decide +kernel)
set_option maxRecDepth 20000 in
theorem gX4_firstError_X4_findError : GoodIn wsX4_firstError (wsV RX4 93 RX4 yX4_findError wsX4_findError) := goodIn_app (goodIn_of _ (by decide +kernel)) ggX4_firstError_X4_findError
theorem dX4_firstError_0 : decode cX4_firstError 0 = .ok (.aload_n 0, 1) := by decide +kernel
theorem dX4_firstError_1 : decode cX4_firstError 1 = .ok (.iconst 0, 1) := by decide +kernel
theorem dX4_firstError_2 : decode cX4_firstError 2 = .ok (.putfield 29, 3) := by decide +kernel
theorem dX4_firstError_5 : decode cX4_firstError 5 = .ok (.aload_n 0, 1) := by decide +kernel
theorem dX4_firstError_6 : decode cX4_firstError 6 = .ok (.invokevirtual 93, 3) := by decide +kernel
theorem dX4_firstError_9 : decode cX4_firstError 9 = .ok (.istore_n 1, 1) := by decide +kernel
theorem dX4_firstError_10 : decode cX4_firstError 10 = .ok (.iload_n 1, 1) := by decide +kernel
theorem dX4_firstError_11 : decode cX4_firstError 11 = .ok (.ifCond .ge 10, 3) := by decide +kernel
theorem dX4_firstError_14 : decode cX4_firstError 14 = .ok (.aload_n 0, 1) := by decide +kernel
theorem dX4_firstError_15 : decode cX4_firstError 15 = .ok (.getfield 74, 3) := by decide +kernel
theorem dX4_firstError_18 : decode cX4_firstError 18 = .ok (.goto 4, 3) := by decide +kernel
theorem dX4_firstError_21 : decode cX4_firstError 21 = .ok (.iload_n 1, 1) := by decide +kernel
theorem dX4_firstError_22 : decode cX4_firstError 22 = .ok (.ireturn, 1) := by decide +kernel
set_option maxRecDepth 20000 in
theorem ggX4_load_X4_findError : GoodIn wsX4_load wsX4_findError := goodIn_r _ [11, 3, 12, 13, 14, 15, 10, 16, 5, 4, 6, 17, 18, 19, 20, 21, 22, 23, 24, 25, 26, 37, 38, 39, 40, 41, 42, 43, 44, 45, 46, 47, 48] (by decide +kernel) (by decide +kernel)
set_option maxRecDepth 20000 in
theorem gX4_load_X4_findError : GoodIn wsX4_load (wsV RX4 93 RX4 yX4_findError wsX4_findError) := goodIn_app (goodIn_of _ (by decide +kernel)) ggX4_load_X4_findError
set_option maxRecDepth 20000 in
theorem ggX4_load_X4_record : GoodIn wsX4_load wsX4_record := goodIn_r _ [30, 31, 32, 2, 37, 38, 39, 40, 41, 42, 43, 44, 45, 46, 47, 48] (by decide +kernel) (by decide +kernel)
set_option maxRecDepth 20000 in
theorem gX4_load_X4_record : GoodIn wsX4_load (wsV RX4 55 RX4 yX4_record wsX4_record) := goodIn_app (goodIn_of _ (by decide +kernel)) ggX4_load_X4_record
set_option maxRecDepth 20000 in
theorem ggX4_load_X4_readPart : GoodIn wsX4_load wsX4_readPart := goodIn_r _ [16, 5, 4, 6, 17, 18, 19, 10, 20, 3, 12, 21, 22, 23, 24, 25, 26, 37, 38, 39, 40, 41, 42, 43, 44, 45, 46, 47, 48] (by decide +kernel) (by decide +kernel)
set_option maxRecDepth 20000 in
theorem gX4_load_X4_readPart : GoodIn wsX4_load (wsV RX4 90 RX4 yX4_readPart wsX4_readPart) := goodIn_app (goodIn_of _ (by decide +kernel)) ggX4_load_X4_readPart
set_option maxRecDepth 20000 in
theorem ggX4_load_X4_turning : GoodIn wsX4_load wsX4_turning := goodIn_r _ [36, 2, 37, 38, 39, 40, 41, 42, 43, 44, 45, 46, 47, 48] (by decide +kernel) (by decide +kernel)
set_option maxRecDepth 20000 in
theorem gX4_load_X4_turning : GoodIn wsX4_load (wsV RX4 51 RX4 yX4_turning wsX4_turning) := goodIn_app (goodIn_of _ (by decide +kernel)) ggX4_load_X4_turning
theorem dX4_load_0 : decode cX4_load 0 = .ok (.aload_n 0, 1) := by decide +kernel
theorem dX4_load_1 : decode cX4_load 1 = .ok (.aload_n 0, 1) := by decide +kernel
theorem dX4_load_2 : decode cX4_load 2 = .ok (.invokevirtual 93, 3) := by decide +kernel
theorem dX4_load_5 : decode cX4_load 5 = .ok (.ifCond .ge 7, 3) := by decide +kernel
theorem dX4_load_8 : decode cX4_load 8 = .ok (.iconst 0, 1) := by decide +kernel
theorem dX4_load_9 : decode cX4_load 9 = .ok (.goto 4, 3) := by decide +kernel
theorem dX4_load_12 : decode cX4_load 12 = .ok (.iconst 1, 1) := by decide +kernel
theorem dX4_load_13 : decode cX4_load 13 = .ok (.putfield 29, 3) := by decide +kernel
theorem dX4_load_16 : decode cX4_load 16 = .ok (.aload_n 0, 1) := by decide +kernel
theorem dX4_load_17 : decode cX4_load 17 = .ok (.getfield 29, 3) := by decide +kernel
theorem dX4_load_20 : decode cX4_load 20 = .ok (.ifCond .le 5, 3) := by decide +kernel
theorem dX4_load_23 : decode cX4_load 23 = .ok (.iconst 0, 1) := by decide +kernel
theorem dX4_load_24 : decode cX4_load 24 = .ok (.ireturn, 1) := by decide +kernel
theorem dX4_load_25 : decode cX4_load 25 = .ok (.aload_n 0, 1) := by decide +kernel
theorem dX4_load_26 : decode cX4_load 26 = .ok (.invokevirtual 55, 3) := by decide +kernel
theorem dX4_load_29 : decode cX4_load 29 = .ok (.iconst 0, 1) := by decide +kernel
theorem dX4_load_30 : decode cX4_load 30 = .ok (.istore_n 1, 1) := by decide +kernel
theorem dX4_load_31 : decode cX4_load 31 = .ok (.iload_n 1, 1) := by decide +kernel
theorem dX4_load_32 : decode cX4_load 32 = .ok (.bipush 16, 2) := by decide +kernel
theorem dX4_load_34 : decode cX4_load 34 = .ok (.if_icmp .ge 16, 3) := by decide +kernel
theorem dX4_load_37 : decode cX4_load 37 = .ok (.aload_n 0, 1) := by decide +kernel
theorem dX4_load_38 : decode cX4_load 38 = .ok (.getfield 7, 3) := by decide +kernel
theorem dX4_load_41 : decode cX4_load 41 = .ok (.iload_n 1, 1) := by decide +kernel
theorem dX4_load_42 : decode cX4_load 42 = .ok (.iconst 0, 1) := by decide +kernel
theorem dX4_load_43 : decode cX4_load 43 = .ok (.iastore, 1) := by decide +kernel
theorem dX4_load_44 : decode cX4_load 44 = .ok (.iinc 1 1, 3) := by decide +kernel
theorem dX4_load_47 : decode cX4_load 47 = .ok (.goto (-16), 3) := by decide +kernel
theorem dX4_load_50 : decode cX4_load 50 = .ok (.iconst 0, 1) := by decide +kernel
theorem dX4_load_51 : decode cX4_load 51 = .ok (.istore_n 1, 1) := by decide +kernel
theorem dX4_load_52 : decode cX4_load 52 = .ok (.iload_n 1, 1) := by decide +kernel
theorem dX4_load_53 : decode cX4_load 53 = .ok (.aload_n 0, 1) := by decide +kernel
theorem dX4_load_54 : decode cX4_load 54 = .ok (.getfield 74, 3) := by decide +kernel
theorem dX4_load_57 : decode cX4_load 57 = .ok (.if_icmp .ge 50, 3) := by decide +kernel
theorem dX4_load_60 : decode cX4_load 60 = .ok (.aload_n 0, 1) := by decide +kernel
theorem dX4_load_61 : decode cX4_load 61 = .ok (.iload_n 1, 1) := by decide +kernel
theorem dX4_load_62 : decode cX4_load 62 = .ok (.invokevirtual 90, 3) := by decide +kernel
theorem dX4_load_65 : decode cX4_load 65 = .ok (.iconst 1, 1) := by decide +kernel
theorem dX4_load_66 : decode cX4_load 66 = .ok (.iadd, 1) := by decide +kernel
theorem dX4_load_67 : decode cX4_load 67 = .ok (.istore_n 1, 1) := by decide +kernel
theorem dX4_load_68 : decode cX4_load 68 = .ok (.aload_n 0, 1) := by decide +kernel
theorem dX4_load_69 : decode cX4_load 69 = .ok (.getfield 83, 3) := by decide +kernel
theorem dX4_load_72 : decode cX4_load 72 = .ok (.ifCond .eq 19, 3) := by decide +kernel
theorem dX4_load_75 : decode cX4_load 75 = .ok (.aload_n 0, 1) := by decide +kernel
theorem dX4_load_76 : decode cX4_load 76 = .ok (.getfield 7, 3) := by decide +kernel
theorem dX4_load_79 : decode cX4_load 79 = .ok (.bipush 8, 2) := by decide +kernel
theorem dX4_load_81 : decode cX4_load 81 = .ok (.aload_n 0, 1) := by decide +kernel
theorem dX4_load_82 : decode cX4_load 82 = .ok (.getfield 80, 3) := by decide +kernel
theorem dX4_load_85 : decode cX4_load 85 = .ok (.iadd, 1) := by decide +kernel
theorem dX4_load_86 : decode cX4_load 86 = .ok (.iconst 1, 1) := by decide +kernel
theorem dX4_load_87 : decode cX4_load 87 = .ok (.iastore, 1) := by decide +kernel
theorem dX4_load_88 : decode cX4_load 88 = .ok (.goto (-36), 3) := by decide +kernel
theorem dX4_load_91 : decode cX4_load 91 = .ok (.aload_n 0, 1) := by decide +kernel
theorem dX4_load_92 : decode cX4_load 92 = .ok (.getfield 7, 3) := by decide +kernel
theorem dX4_load_95 : decode cX4_load 95 = .ok (.aload_n 0, 1) := by decide +kernel
theorem dX4_load_96 : decode cX4_load 96 = .ok (.getfield 80, 3) := by decide +kernel
theorem dX4_load_99 : decode cX4_load 99 = .ok (.aload_n 0, 1) := by decide +kernel
theorem dX4_load_100 : decode cX4_load 100 = .ok (.getfield 87, 3) := by decide +kernel
theorem dX4_load_103 : decode cX4_load 103 = .ok (.iastore, 1) := by decide +kernel
theorem dX4_load_104 : decode cX4_load 104 = .ok (.goto (-52), 3) := by decide +kernel
theorem dX4_load_107 : decode cX4_load 107 = .ok (.aload_n 0, 1) := by decide +kernel
theorem dX4_load_108 : decode cX4_load 108 = .ok (.iconst 0, 1) := by decide +kernel
theorem dX4_load_109 : decode cX4_load 109 = .ok (.putfield 74, 3) := by decide +kernel
theorem dX4_load_112 : decode cX4_load 112 = .ok (.aload_n 0, 1) := by decide +kernel
theorem dX4_load_113 : decode cX4_load 113 = .ok (.invokevirtual 51, 3) := by decide +kernel
theorem dX4_load_116 : decode cX4_load 116 = .ok (.ireturn, 1) := by decide +kernel
set_option maxRecDepth 20000 in
theorem ggX4_changes_X4_wave : GoodIn wsX4_changes wsX4_wave := goodIn_r _ [4] (by decide +kernel) (by decide +kernel)
set_option maxRecDepth 20000 in
theorem gX4_changes_X4_wave : GoodIn wsX4_changes (va_wsS RX4 41 yX4_wave wsX4_wave) := goodIn_app (goodIn_of _ (by decide +kernel)) ggX4_changes_X4_wave
theorem dX4_changes_0 : decode cX4_changes 0 = .ok (.iconst 0, 1) := by decide +kernel
theorem dX4_changes_1 : decode cX4_changes 1 = .ok (.istore_n 1, 1) := by decide +kernel
theorem dX4_changes_2 : decode cX4_changes 2 = .ok (.iconst 1, 1) := by decide +kernel
theorem dX4_changes_3 : decode cX4_changes 3 = .ok (.istore_n 2, 1) := by decide +kernel
theorem dX4_changes_4 : decode cX4_changes 4 = .ok (.iload_n 2, 1) := by decide +kernel
theorem dX4_changes_5 : decode cX4_changes 5 = .ok (.bipush 8, 2) := by decide +kernel
theorem dX4_changes_7 : decode cX4_changes 7 = .ok (.if_icmp .ge 32, 3) := by decide +kernel
theorem dX4_changes_10 : decode cX4_changes 10 = .ok (.iload_n 1, 1) := by decide +kernel
theorem dX4_changes_11 : decode cX4_changes 11 = .ok (.iload_n 0, 1) := by decide +kernel
theorem dX4_changes_12 : decode cX4_changes 12 = .ok (.iload_n 2, 1) := by decide +kernel
theorem dX4_changes_13 : decode cX4_changes 13 = .ok (.invokestatic 41, 3) := by decide +kernel
theorem dX4_changes_16 : decode cX4_changes 16 = .ok (.iload_n 0, 1) := by decide +kernel
theorem dX4_changes_17 : decode cX4_changes 17 = .ok (.iload_n 2, 1) := by decide +kernel
theorem dX4_changes_18 : decode cX4_changes 18 = .ok (.iconst 1, 1) := by decide +kernel
theorem dX4_changes_19 : decode cX4_changes 19 = .ok (.isub, 1) := by decide +kernel
theorem dX4_changes_20 : decode cX4_changes 20 = .ok (.invokestatic 41, 3) := by decide +kernel
theorem dX4_changes_23 : decode cX4_changes 23 = .ok (.if_icmp .ne 7, 3) := by decide +kernel
theorem dX4_changes_26 : decode cX4_changes 26 = .ok (.iconst 0, 1) := by decide +kernel
theorem dX4_changes_27 : decode cX4_changes 27 = .ok (.goto 4, 3) := by decide +kernel
theorem dX4_changes_30 : decode cX4_changes 30 = .ok (.iconst 1, 1) := by decide +kernel
theorem dX4_changes_31 : decode cX4_changes 31 = .ok (.iadd, 1) := by decide +kernel
theorem dX4_changes_32 : decode cX4_changes 32 = .ok (.istore_n 1, 1) := by decide +kernel
theorem dX4_changes_33 : decode cX4_changes 33 = .ok (.iinc 2 1, 3) := by decide +kernel
theorem dX4_changes_36 : decode cX4_changes 36 = .ok (.goto (-32), 3) := by decide +kernel
theorem dX4_changes_39 : decode cX4_changes 39 = .ok (.iload_n 1, 1) := by decide +kernel
theorem dX4_changes_40 : decode cX4_changes 40 = .ok (.ireturn, 1) := by decide +kernel
set_option maxRecDepth 20000 in
theorem ggX4_wheelNow_X4_ofPattern : GoodIn wsX4_wheelNow wsX4_ofPattern := goodIn_r _ [6, 1, 7, 8, 5, 9, 13, 14, 15, 16, 17, 18, 19, 20, 21, 22, 23, 24] (by decide +kernel) (by decide +kernel)
set_option maxRecDepth 20000 in
theorem gX4_wheelNow_X4_ofPattern : GoodIn wsX4_wheelNow (wsV RX4 71 RX4 yX4_ofPattern wsX4_ofPattern) := goodIn_app (goodIn_of _ (by decide +kernel)) ggX4_wheelNow_X4_ofPattern
set_option maxRecDepth 20000 in
theorem ggX4_wheelNow_X4_changes : GoodIn wsX4_wheelNow wsX4_changes := goodIn_r _ [12, 7, 8, 5, 9] (by decide +kernel) (by decide +kernel)
set_option maxRecDepth 20000 in
theorem gX4_wheelNow_X4_changes : GoodIn wsX4_wheelNow (va_wsS RX4 96 yX4_changes wsX4_changes) := goodIn_app (goodIn_of _ (by decide +kernel)) ggX4_wheelNow_X4_changes
theorem dX4_wheelNow_0 : decode cX4_wheelNow 0 = .ok (.iload_n 2, 1) := by decide +kernel
theorem dX4_wheelNow_1 : decode cX4_wheelNow 1 = .ok (.tableswitch 50 0 2 #[27, 34, 44], 27) := by decide +kernel
theorem dX4_wheelNow_28 : decode cX4_wheelNow 28 = .ok (.aload_n 0, 1) := by decide +kernel
theorem dX4_wheelNow_29 : decode cX4_wheelNow 29 = .ok (.getfield 7, 3) := by decide +kernel
theorem dX4_wheelNow_32 : decode cX4_wheelNow 32 = .ok (.iload_n 1, 1) := by decide +kernel
theorem dX4_wheelNow_33 : decode cX4_wheelNow 33 = .ok (.iaload, 1) := by decide +kernel
theorem dX4_wheelNow_34 : decode cX4_wheelNow 34 = .ok (.ireturn, 1) := by decide +kernel
theorem dX4_wheelNow_35 : decode cX4_wheelNow 35 = .ok (.aload_n 0, 1) := by decide +kernel
theorem dX4_wheelNow_36 : decode cX4_wheelNow 36 = .ok (.getfield 7, 3) := by decide +kernel
theorem dX4_wheelNow_39 : decode cX4_wheelNow 39 = .ok (.bipush 8, 2) := by decide +kernel
theorem dX4_wheelNow_41 : decode cX4_wheelNow 41 = .ok (.iload_n 1, 1) := by decide +kernel
theorem dX4_wheelNow_42 : decode cX4_wheelNow 42 = .ok (.iadd, 1) := by decide +kernel
theorem dX4_wheelNow_43 : decode cX4_wheelNow 43 = .ok (.iaload, 1) := by decide +kernel
theorem dX4_wheelNow_44 : decode cX4_wheelNow 44 = .ok (.ireturn, 1) := by decide +kernel
theorem dX4_wheelNow_45 : decode cX4_wheelNow 45 = .ok (.aload_n 0, 1) := by decide +kernel
theorem dX4_wheelNow_46 : decode cX4_wheelNow 46 = .ok (.iload_n 1, 1) := by decide +kernel
theorem dX4_wheelNow_47 : decode cX4_wheelNow 47 = .ok (.invokevirtual 71, 3) := by decide +kernel
theorem dX4_wheelNow_50 : decode cX4_wheelNow 50 = .ok (.ireturn, 1) := by decide +kernel
theorem dX4_wheelNow_51 : decode cX4_wheelNow 51 = .ok (.iload_n 1, 1) := by decide +kernel
theorem dX4_wheelNow_52 : decode cX4_wheelNow 52 = .ok (.invokestatic 96, 3) := by decide +kernel
theorem dX4_wheelNow_55 : decode cX4_wheelNow 55 = .ok (.ireturn, 1) := by decide +kernel
set_option maxRecDepth 20000 in
theorem ggX4_wheelOf_X4_isOne : GoodIn wsX4_wheelOf wsX4_isOne := goodIn_r _ [5, 6, 7, 4, 8] (by decide +kernel) (by decide +kernel)
set_option maxRecDepth 20000 in
theorem gX4_wheelOf_X4_isOne : GoodIn wsX4_wheelOf (va_wsS RX4 58 yX4_isOne wsX4_isOne) := goodIn_app (goodIn_of _ (by decide +kernel)) ggX4_wheelOf_X4_isOne
set_option maxRecDepth 20000 in
theorem ggX4_wheelOf_X4_in : GoodIn wsX4_wheelOf wsX4_in := goodIn_r _ [8] (by decide +kernel) (by decide +kernel)
set_option maxRecDepth 20000 in
theorem gX4_wheelOf_X4_in : GoodIn wsX4_wheelOf (va_wsS RX4 33 yX4_in wsX4_in) := goodIn_app (goodIn_of _ (by decide +kernel)) ggX4_wheelOf_X4_in
set_option maxRecDepth 20000 in
theorem ggX4_wheelOf_X4_wheelNow : GoodIn wsX4_wheelOf wsX4_wheelNow := goodIn_r _ [12, 13, 14, 15, 16, 4, 17, 18, 19, 20, 21, 22, 23, 24, 25, 26, 27, 28, 29, 30, 31, 32, 33, 34, 35] (by decide +kernel) (by decide +kernel)
set_option maxRecDepth 20000 in
theorem gX4_wheelOf_X4_wheelNow : GoodIn wsX4_wheelOf (wsV RX4 99 RX4 yX4_wheelNow wsX4_wheelNow) := goodIn_app (goodIn_of _ (by decide +kernel)) ggX4_wheelOf_X4_wheelNow
theorem dX4_wheelOf_0 : decode cX4_wheelOf 0 = .ok (.aload_n 0, 1) := by decide +kernel
theorem dX4_wheelOf_1 : decode cX4_wheelOf 1 = .ok (.iload_n 1, 1) := by decide +kernel
theorem dX4_wheelOf_2 : decode cX4_wheelOf 2 = .ok (.invokestatic 58, 3) := by decide +kernel
theorem dX4_wheelOf_5 : decode cX4_wheelOf 5 = .ok (.ifCond .ne 7, 3) := by decide +kernel
theorem dX4_wheelOf_8 : decode cX4_wheelOf 8 = .ok (.iconst 1, 1) := by decide +kernel
theorem dX4_wheelOf_9 : decode cX4_wheelOf 9 = .ok (.goto 17, 3) := by decide +kernel
theorem dX4_wheelOf_12 : decode cX4_wheelOf 12 = .ok (.iload_n 2, 1) := by decide +kernel
theorem dX4_wheelOf_13 : decode cX4_wheelOf 13 = .ok (.iconst 0, 1) := by decide +kernel
theorem dX4_wheelOf_14 : decode cX4_wheelOf 14 = .ok (.iconst 3, 1) := by decide +kernel
theorem dX4_wheelOf_15 : decode cX4_wheelOf 15 = .ok (.invokestatic 33, 3) := by decide +kernel
theorem dX4_wheelOf_18 : decode cX4_wheelOf 18 = .ok (.ifCond .eq 7, 3) := by decide +kernel
theorem dX4_wheelOf_21 : decode cX4_wheelOf 21 = .ok (.iconst 0, 1) := by decide +kernel
theorem dX4_wheelOf_22 : decode cX4_wheelOf 22 = .ok (.goto 4, 3) := by decide +kernel
theorem dX4_wheelOf_25 : decode cX4_wheelOf 25 = .ok (.iconst 2, 1) := by decide +kernel
theorem dX4_wheelOf_26 : decode cX4_wheelOf 26 = .ok (.putfield 29, 3) := by decide +kernel
theorem dX4_wheelOf_29 : decode cX4_wheelOf 29 = .ok (.aload_n 0, 1) := by decide +kernel
theorem dX4_wheelOf_30 : decode cX4_wheelOf 30 = .ok (.getfield 29, 3) := by decide +kernel
theorem dX4_wheelOf_33 : decode cX4_wheelOf 33 = .ok (.ifCond .le 7, 3) := by decide +kernel
theorem dX4_wheelOf_36 : decode cX4_wheelOf 36 = .ok (.iconst 0, 1) := by decide +kernel
theorem dX4_wheelOf_37 : decode cX4_wheelOf 37 = .ok (.goto 9, 3) := by decide +kernel
theorem dX4_wheelOf_40 : decode cX4_wheelOf 40 = .ok (.aload_n 0, 1) := by decide +kernel
theorem dX4_wheelOf_41 : decode cX4_wheelOf 41 = .ok (.iload_n 1, 1) := by decide +kernel
theorem dX4_wheelOf_42 : decode cX4_wheelOf 42 = .ok (.iload_n 2, 1) := by decide +kernel
theorem dX4_wheelOf_43 : decode cX4_wheelOf 43 = .ok (.invokevirtual 99, 3) := by decide +kernel
theorem dX4_wheelOf_46 : decode cX4_wheelOf 46 = .ok (.ireturn, 1) := by decide +kernel
set_option maxRecDepth 20000 in
theorem ggX4_trace_X4_isOne : GoodIn wsX4_trace wsX4_isOne := goodIn_r _ [5, 6, 7, 4, 8] (by decide +kernel) (by decide +kernel)
set_option maxRecDepth 20000 in
theorem gX4_trace_X4_isOne : GoodIn wsX4_trace (va_wsS RX4 58 yX4_isOne wsX4_isOne) := goodIn_app (goodIn_of _ (by decide +kernel)) ggX4_trace_X4_isOne
set_option maxRecDepth 20000 in
theorem ggX4_trace_X4_in : GoodIn wsX4_trace wsX4_in := goodIn_r _ [8] (by decide +kernel) (by decide +kernel)
set_option maxRecDepth 20000 in
theorem gX4_trace_X4_in : GoodIn wsX4_trace (va_wsS RX4 33 yX4_in wsX4_in) := goodIn_app (goodIn_of _ (by decide +kernel)) ggX4_trace_X4_in
set_option maxRecDepth 20000 in
theorem ggX4_trace_X4_traceAt : GoodIn wsX4_trace wsX4_traceAt := goodIn_r _ [12, 13, 14, 15, 4, 16, 17, 18, 19, 20, 21, 22, 23, 24, 25, 26, 27, 28, 29, 30, 31, 32] (by decide +kernel) (by decide +kernel)
set_option maxRecDepth 20000 in
theorem gX4_trace_X4_traceAt : GoodIn wsX4_trace (wsV RX4 45 RX4 yX4_traceAt wsX4_traceAt) := goodIn_app (goodIn_of _ (by decide +kernel)) ggX4_trace_X4_traceAt
theorem dX4_trace_0 : decode cX4_trace 0 = .ok (.aload_n 0, 1) := by decide +kernel
theorem dX4_trace_1 : decode cX4_trace 1 = .ok (.iload_n 1, 1) := by decide +kernel
theorem dX4_trace_2 : decode cX4_trace 2 = .ok (.invokestatic 58, 3) := by decide +kernel
theorem dX4_trace_5 : decode cX4_trace 5 = .ok (.ifCond .ne 7, 3) := by decide +kernel
theorem dX4_trace_8 : decode cX4_trace 8 = .ok (.iconst 1, 1) := by decide +kernel
theorem dX4_trace_9 : decode cX4_trace 9 = .ok (.goto 17, 3) := by decide +kernel
theorem dX4_trace_12 : decode cX4_trace 12 = .ok (.iload_n 2, 1) := by decide +kernel
theorem dX4_trace_13 : decode cX4_trace 13 = .ok (.iconst 0, 1) := by decide +kernel
theorem dX4_trace_14 : decode cX4_trace 14 = .ok (.iconst 1, 1) := by decide +kernel
theorem dX4_trace_15 : decode cX4_trace 15 = .ok (.invokestatic 33, 3) := by decide +kernel
theorem dX4_trace_18 : decode cX4_trace 18 = .ok (.ifCond .eq 7, 3) := by decide +kernel
theorem dX4_trace_21 : decode cX4_trace 21 = .ok (.iconst 0, 1) := by decide +kernel
theorem dX4_trace_22 : decode cX4_trace 22 = .ok (.goto 4, 3) := by decide +kernel
theorem dX4_trace_25 : decode cX4_trace 25 = .ok (.iconst 2, 1) := by decide +kernel
theorem dX4_trace_26 : decode cX4_trace 26 = .ok (.putfield 29, 3) := by decide +kernel
theorem dX4_trace_29 : decode cX4_trace 29 = .ok (.aload_n 0, 1) := by decide +kernel
theorem dX4_trace_30 : decode cX4_trace 30 = .ok (.getfield 29, 3) := by decide +kernel
theorem dX4_trace_33 : decode cX4_trace 33 = .ok (.ifCond .le 7, 3) := by decide +kernel
theorem dX4_trace_36 : decode cX4_trace 36 = .ok (.iconst 0, 1) := by decide +kernel
theorem dX4_trace_37 : decode cX4_trace 37 = .ok (.goto 8, 3) := by decide +kernel
theorem dX4_trace_40 : decode cX4_trace 40 = .ok (.aload_n 0, 1) := by decide +kernel
theorem dX4_trace_41 : decode cX4_trace 41 = .ok (.iload_n 1, 1) := by decide +kernel
theorem dX4_trace_42 : decode cX4_trace 42 = .ok (.invokevirtual 45, 3) := by decide +kernel
theorem dX4_trace_45 : decode cX4_trace 45 = .ok (.ireturn, 1) := by decide +kernel
set_option maxRecDepth 20000 in
theorem ggX4_pointNow_X4_difference : GoodIn wsX4_pointNow wsX4_difference := goodIn_r _ [6, 1, 7, 8, 9, 5, 10, 11, 12, 13, 14, 15, 16, 17, 22, 23, 24, 25, 26, 27, 28, 29, 30, 31, 32, 33] (by decide +kernel) (by decide +kernel)
set_option maxRecDepth 20000 in
theorem gX4_pointNow_X4_difference : GoodIn wsX4_pointNow (wsV RX4 68 RX4 yX4_difference wsX4_difference) := goodIn_app (goodIn_of _ (by decide +kernel)) ggX4_pointNow_X4_difference
set_option maxRecDepth 20000 in
theorem ggX4_pointNow_X4_jump : GoodIn wsX4_pointNow wsX4_jump := goodIn_r _ [21, 7, 8, 9, 5, 10, 11, 12, 13, 14, 1, 15, 16, 17, 22, 23, 24, 25, 26, 27, 28, 29, 30, 31, 32, 33] (by decide +kernel) (by decide +kernel)
set_option maxRecDepth 20000 in
theorem gX4_pointNow_X4_jump : GoodIn wsX4_pointNow (wsV RX4 102 RX4 yX4_jump wsX4_jump) := goodIn_app (goodIn_of _ (by decide +kernel)) ggX4_pointNow_X4_jump
theorem dX4_pointNow_0 : decode cX4_pointNow 0 = .ok (.iload_n 2, 1) := by decide +kernel
theorem dX4_pointNow_1 : decode cX4_pointNow 1 = .ok (.ifCond .ne 15, 3) := by decide +kernel
theorem dX4_pointNow_4 : decode cX4_pointNow 4 = .ok (.aload_n 0, 1) := by decide +kernel
theorem dX4_pointNow_5 : decode cX4_pointNow 5 = .ok (.getfield 7, 3) := by decide +kernel
theorem dX4_pointNow_8 : decode cX4_pointNow 8 = .ok (.bipush 16, 2) := by decide +kernel
theorem dX4_pointNow_10 : decode cX4_pointNow 10 = .ok (.iload_n 1, 1) := by decide +kernel
theorem dX4_pointNow_11 : decode cX4_pointNow 11 = .ok (.iadd, 1) := by decide +kernel
theorem dX4_pointNow_12 : decode cX4_pointNow 12 = .ok (.iaload, 1) := by decide +kernel
theorem dX4_pointNow_13 : decode cX4_pointNow 13 = .ok (.goto 21, 3) := by decide +kernel
theorem dX4_pointNow_16 : decode cX4_pointNow 16 = .ok (.iload_n 2, 1) := by decide +kernel
theorem dX4_pointNow_17 : decode cX4_pointNow 17 = .ok (.iconst 1, 1) := by decide +kernel
theorem dX4_pointNow_18 : decode cX4_pointNow 18 = .ok (.if_icmp .ne 11, 3) := by decide +kernel
theorem dX4_pointNow_21 : decode cX4_pointNow 21 = .ok (.aload_n 0, 1) := by decide +kernel
theorem dX4_pointNow_22 : decode cX4_pointNow 22 = .ok (.iload_n 1, 1) := by decide +kernel
theorem dX4_pointNow_23 : decode cX4_pointNow 23 = .ok (.invokevirtual 68, 3) := by decide +kernel
theorem dX4_pointNow_26 : decode cX4_pointNow 26 = .ok (.goto 8, 3) := by decide +kernel
theorem dX4_pointNow_29 : decode cX4_pointNow 29 = .ok (.aload_n 0, 1) := by decide +kernel
theorem dX4_pointNow_30 : decode cX4_pointNow 30 = .ok (.iload_n 1, 1) := by decide +kernel
theorem dX4_pointNow_31 : decode cX4_pointNow 31 = .ok (.invokevirtual 102, 3) := by decide +kernel
theorem dX4_pointNow_34 : decode cX4_pointNow 34 = .ok (.ireturn, 1) := by decide +kernel
set_option maxRecDepth 20000 in
theorem ggX4_pointOf_X4_isOne : GoodIn wsX4_pointOf wsX4_isOne := goodIn_r _ [5, 6, 7, 4, 8] (by decide +kernel) (by decide +kernel)
set_option maxRecDepth 20000 in
theorem gX4_pointOf_X4_isOne : GoodIn wsX4_pointOf (va_wsS RX4 58 yX4_isOne wsX4_isOne) := goodIn_app (goodIn_of _ (by decide +kernel)) ggX4_pointOf_X4_isOne
set_option maxRecDepth 20000 in
theorem ggX4_pointOf_X4_in : GoodIn wsX4_pointOf wsX4_in := goodIn_r _ [8] (by decide +kernel) (by decide +kernel)
set_option maxRecDepth 20000 in
theorem gX4_pointOf_X4_in : GoodIn wsX4_pointOf (va_wsS RX4 33 yX4_in wsX4_in) := goodIn_app (goodIn_of _ (by decide +kernel)) ggX4_pointOf_X4_in
set_option maxRecDepth 20000 in
theorem ggX4_pointOf_X4_pointNow : GoodIn wsX4_pointOf wsX4_pointNow := goodIn_r _ [12, 13, 14, 15, 16, 4, 17, 18, 19, 20, 21, 22, 23, 24, 25, 26, 27, 28, 29, 30, 31, 32, 33, 34, 35, 36, 37, 38, 39, 40, 41, 42, 43, 44] (by decide +kernel) (by decide +kernel)
set_option maxRecDepth 20000 in
theorem gX4_pointOf_X4_pointNow : GoodIn wsX4_pointOf (wsV RX4 105 RX4 yX4_pointNow wsX4_pointNow) := goodIn_app (goodIn_of _ (by decide +kernel)) ggX4_pointOf_X4_pointNow
theorem dX4_pointOf_0 : decode cX4_pointOf 0 = .ok (.aload_n 0, 1) := by decide +kernel
theorem dX4_pointOf_1 : decode cX4_pointOf 1 = .ok (.iload_n 1, 1) := by decide +kernel
theorem dX4_pointOf_2 : decode cX4_pointOf 2 = .ok (.invokestatic 58, 3) := by decide +kernel
theorem dX4_pointOf_5 : decode cX4_pointOf 5 = .ok (.ifCond .ne 7, 3) := by decide +kernel
theorem dX4_pointOf_8 : decode cX4_pointOf 8 = .ok (.iconst 1, 1) := by decide +kernel
theorem dX4_pointOf_9 : decode cX4_pointOf 9 = .ok (.goto 17, 3) := by decide +kernel
theorem dX4_pointOf_12 : decode cX4_pointOf 12 = .ok (.iload_n 2, 1) := by decide +kernel
theorem dX4_pointOf_13 : decode cX4_pointOf 13 = .ok (.iconst 0, 1) := by decide +kernel
theorem dX4_pointOf_14 : decode cX4_pointOf 14 = .ok (.iconst 2, 1) := by decide +kernel
theorem dX4_pointOf_15 : decode cX4_pointOf 15 = .ok (.invokestatic 33, 3) := by decide +kernel
theorem dX4_pointOf_18 : decode cX4_pointOf 18 = .ok (.ifCond .eq 7, 3) := by decide +kernel
theorem dX4_pointOf_21 : decode cX4_pointOf 21 = .ok (.iconst 0, 1) := by decide +kernel
theorem dX4_pointOf_22 : decode cX4_pointOf 22 = .ok (.goto 4, 3) := by decide +kernel
theorem dX4_pointOf_25 : decode cX4_pointOf 25 = .ok (.iconst 2, 1) := by decide +kernel
theorem dX4_pointOf_26 : decode cX4_pointOf 26 = .ok (.putfield 29, 3) := by decide +kernel
theorem dX4_pointOf_29 : decode cX4_pointOf 29 = .ok (.aload_n 0, 1) := by decide +kernel
theorem dX4_pointOf_30 : decode cX4_pointOf 30 = .ok (.getfield 29, 3) := by decide +kernel
theorem dX4_pointOf_33 : decode cX4_pointOf 33 = .ok (.ifCond .le 7, 3) := by decide +kernel
theorem dX4_pointOf_36 : decode cX4_pointOf 36 = .ok (.iconst 0, 1) := by decide +kernel
theorem dX4_pointOf_37 : decode cX4_pointOf 37 = .ok (.goto 9, 3) := by decide +kernel
theorem dX4_pointOf_40 : decode cX4_pointOf 40 = .ok (.aload_n 0, 1) := by decide +kernel
theorem dX4_pointOf_41 : decode cX4_pointOf 41 = .ok (.iload_n 1, 1) := by decide +kernel
theorem dX4_pointOf_42 : decode cX4_pointOf 42 = .ok (.iload_n 2, 1) := by decide +kernel
theorem dX4_pointOf_43 : decode cX4_pointOf 43 = .ok (.invokevirtual 105, 3) := by decide +kernel
theorem dX4_pointOf_46 : decode cX4_pointOf 46 = .ok (.ireturn, 1) := by decide +kernel
theorem dX4_lost_0 : decode cX4_lost 0 = .ok (.iconst 0, 1) := by decide +kernel
theorem dX4_lost_1 : decode cX4_lost 1 = .ok (.istore_n 1, 1) := by decide +kernel
theorem dX4_lost_2 : decode cX4_lost 2 = .ok (.iconst 0, 1) := by decide +kernel
theorem dX4_lost_3 : decode cX4_lost 3 = .ok (.istore_n 2, 1) := by decide +kernel
theorem dX4_lost_4 : decode cX4_lost 4 = .ok (.iload_n 2, 1) := by decide +kernel
theorem dX4_lost_5 : decode cX4_lost 5 = .ok (.bipush 8, 2) := by decide +kernel
theorem dX4_lost_7 : decode cX4_lost 7 = .ok (.if_icmp .ge 21, 3) := by decide +kernel
theorem dX4_lost_10 : decode cX4_lost 10 = .ok (.iload_n 1, 1) := by decide +kernel
theorem dX4_lost_11 : decode cX4_lost 11 = .ok (.aload_n 0, 1) := by decide +kernel
theorem dX4_lost_12 : decode cX4_lost 12 = .ok (.getfield 7, 3) := by decide +kernel
theorem dX4_lost_15 : decode cX4_lost 15 = .ok (.bipush 8, 2) := by decide +kernel
theorem dX4_lost_17 : decode cX4_lost 17 = .ok (.iload_n 2, 1) := by decide +kernel
theorem dX4_lost_18 : decode cX4_lost 18 = .ok (.iadd, 1) := by decide +kernel
theorem dX4_lost_19 : decode cX4_lost 19 = .ok (.iaload, 1) := by decide +kernel
theorem dX4_lost_20 : decode cX4_lost 20 = .ok (.iadd, 1) := by decide +kernel
theorem dX4_lost_21 : decode cX4_lost 21 = .ok (.istore_n 1, 1) := by decide +kernel
theorem dX4_lost_22 : decode cX4_lost 22 = .ok (.iinc 2 1, 3) := by decide +kernel
theorem dX4_lost_25 : decode cX4_lost 25 = .ok (.goto (-21), 3) := by decide +kernel
theorem dX4_lost_28 : decode cX4_lost 28 = .ok (.iload_n 1, 1) := by decide +kernel
theorem dX4_lost_29 : decode cX4_lost 29 = .ok (.ireturn, 1) := by decide +kernel
set_option maxRecDepth 20000 in
theorem ggX4_greatestTrace_X4_traceAt : GoodIn wsX4_greatestTrace wsX4_traceAt := goodIn_r _ [5, 6, 7, 8, 4, 9, 10, 11, 12, 13, 14, 15, 16, 17, 18, 19, 20, 21, 22, 23, 24, 25] (by decide +kernel) (by decide +kernel)
set_option maxRecDepth 20000 in
theorem gX4_greatestTrace_X4_traceAt : GoodIn wsX4_greatestTrace (wsV RX4 45 RX4 yX4_traceAt wsX4_traceAt) := goodIn_app (goodIn_of _ (by decide +kernel)) ggX4_greatestTrace_X4_traceAt
theorem dX4_greatestTrace_0 : decode cX4_greatestTrace 0 = .ok (.aload_n 0, 1) := by decide +kernel
theorem dX4_greatestTrace_1 : decode cX4_greatestTrace 1 = .ok (.iconst 0, 1) := by decide +kernel
theorem dX4_greatestTrace_2 : decode cX4_greatestTrace 2 = .ok (.invokevirtual 45, 3) := by decide +kernel
theorem dX4_greatestTrace_5 : decode cX4_greatestTrace 5 = .ok (.istore_n 1, 1) := by decide +kernel
theorem dX4_greatestTrace_6 : decode cX4_greatestTrace 6 = .ok (.iconst 1, 1) := by decide +kernel
theorem dX4_greatestTrace_7 : decode cX4_greatestTrace 7 = .ok (.istore_n 2, 1) := by decide +kernel
theorem dX4_greatestTrace_8 : decode cX4_greatestTrace 8 = .ok (.iload_n 2, 1) := by decide +kernel
theorem dX4_greatestTrace_9 : decode cX4_greatestTrace 9 = .ok (.bipush 8, 2) := by decide +kernel
theorem dX4_greatestTrace_11 : decode cX4_greatestTrace 11 = .ok (.if_icmp .ge 28, 3) := by decide +kernel
theorem dX4_greatestTrace_14 : decode cX4_greatestTrace 14 = .ok (.aload_n 0, 1) := by decide +kernel
theorem dX4_greatestTrace_15 : decode cX4_greatestTrace 15 = .ok (.iload_n 2, 1) := by decide +kernel
theorem dX4_greatestTrace_16 : decode cX4_greatestTrace 16 = .ok (.invokevirtual 45, 3) := by decide +kernel
theorem dX4_greatestTrace_19 : decode cX4_greatestTrace 19 = .ok (.iload_n 1, 1) := by decide +kernel
theorem dX4_greatestTrace_20 : decode cX4_greatestTrace 20 = .ok (.if_icmp .le 11, 3) := by decide +kernel
theorem dX4_greatestTrace_23 : decode cX4_greatestTrace 23 = .ok (.aload_n 0, 1) := by decide +kernel
theorem dX4_greatestTrace_24 : decode cX4_greatestTrace 24 = .ok (.iload_n 2, 1) := by decide +kernel
theorem dX4_greatestTrace_25 : decode cX4_greatestTrace 25 = .ok (.invokevirtual 45, 3) := by decide +kernel
theorem dX4_greatestTrace_28 : decode cX4_greatestTrace 28 = .ok (.goto 4, 3) := by decide +kernel
theorem dX4_greatestTrace_31 : decode cX4_greatestTrace 31 = .ok (.iload_n 1, 1) := by decide +kernel
theorem dX4_greatestTrace_32 : decode cX4_greatestTrace 32 = .ok (.istore_n 1, 1) := by decide +kernel
theorem dX4_greatestTrace_33 : decode cX4_greatestTrace 33 = .ok (.iinc 2 1, 3) := by decide +kernel
theorem dX4_greatestTrace_36 : decode cX4_greatestTrace 36 = .ok (.goto (-28), 3) := by decide +kernel
theorem dX4_greatestTrace_39 : decode cX4_greatestTrace 39 = .ok (.iload_n 1, 1) := by decide +kernel
theorem dX4_greatestTrace_40 : decode cX4_greatestTrace 40 = .ok (.ireturn, 1) := by decide +kernel
set_option maxRecDepth 20000 in
theorem ggX4_leastTrace_X4_traceAt : GoodIn wsX4_leastTrace wsX4_traceAt := goodIn_r _ [5, 6, 7, 8, 4, 9, 10, 11, 12, 13, 14, 15, 16, 17, 18, 19, 20, 21, 22, 23, 24, 25] (by decide +kernel) (by decide +kernel)
set_option maxRecDepth 20000 in
theorem gX4_leastTrace_X4_traceAt : GoodIn wsX4_leastTrace (wsV RX4 45 RX4 yX4_traceAt wsX4_traceAt) := goodIn_app (goodIn_of _ (by decide +kernel)) ggX4_leastTrace_X4_traceAt
theorem dX4_leastTrace_0 : decode cX4_leastTrace 0 = .ok (.aload_n 0, 1) := by decide +kernel
theorem dX4_leastTrace_1 : decode cX4_leastTrace 1 = .ok (.iconst 0, 1) := by decide +kernel
theorem dX4_leastTrace_2 : decode cX4_leastTrace 2 = .ok (.invokevirtual 45, 3) := by decide +kernel
theorem dX4_leastTrace_5 : decode cX4_leastTrace 5 = .ok (.istore_n 1, 1) := by decide +kernel
theorem dX4_leastTrace_6 : decode cX4_leastTrace 6 = .ok (.iconst 1, 1) := by decide +kernel
theorem dX4_leastTrace_7 : decode cX4_leastTrace 7 = .ok (.istore_n 2, 1) := by decide +kernel
theorem dX4_leastTrace_8 : decode cX4_leastTrace 8 = .ok (.iload_n 2, 1) := by decide +kernel
theorem dX4_leastTrace_9 : decode cX4_leastTrace 9 = .ok (.bipush 8, 2) := by decide +kernel
theorem dX4_leastTrace_11 : decode cX4_leastTrace 11 = .ok (.if_icmp .ge 28, 3) := by decide +kernel
theorem dX4_leastTrace_14 : decode cX4_leastTrace 14 = .ok (.aload_n 0, 1) := by decide +kernel
theorem dX4_leastTrace_15 : decode cX4_leastTrace 15 = .ok (.iload_n 2, 1) := by decide +kernel
theorem dX4_leastTrace_16 : decode cX4_leastTrace 16 = .ok (.invokevirtual 45, 3) := by decide +kernel
theorem dX4_leastTrace_19 : decode cX4_leastTrace 19 = .ok (.iload_n 1, 1) := by decide +kernel
theorem dX4_leastTrace_20 : decode cX4_leastTrace 20 = .ok (.if_icmp .ge 11, 3) := by decide +kernel
theorem dX4_leastTrace_23 : decode cX4_leastTrace 23 = .ok (.aload_n 0, 1) := by decide +kernel
theorem dX4_leastTrace_24 : decode cX4_leastTrace 24 = .ok (.iload_n 2, 1) := by decide +kernel
theorem dX4_leastTrace_25 : decode cX4_leastTrace 25 = .ok (.invokevirtual 45, 3) := by decide +kernel
theorem dX4_leastTrace_28 : decode cX4_leastTrace 28 = .ok (.goto 4, 3) := by decide +kernel
theorem dX4_leastTrace_31 : decode cX4_leastTrace 31 = .ok (.iload_n 1, 1) := by decide +kernel
theorem dX4_leastTrace_32 : decode cX4_leastTrace 32 = .ok (.istore_n 1, 1) := by decide +kernel
theorem dX4_leastTrace_33 : decode cX4_leastTrace 33 = .ok (.iinc 2 1, 3) := by decide +kernel
theorem dX4_leastTrace_36 : decode cX4_leastTrace 36 = .ok (.goto (-28), 3) := by decide +kernel
theorem dX4_leastTrace_39 : decode cX4_leastTrace 39 = .ok (.iload_n 1, 1) := by decide +kernel
theorem dX4_leastTrace_40 : decode cX4_leastTrace 40 = .ok (.ireturn, 1) := by decide +kernel
set_option maxRecDepth 20000 in
theorem ggX4_greatest_X4_pointNow : GoodIn wsX4_greatest wsX4_pointNow := goodIn_r _ [5, 6, 7, 8, 9, 4, 10, 11, 12, 13, 14, 15, 16, 17, 18, 19, 20, 21, 22, 23, 24, 25, 29, 30, 31, 32, 33, 34, 35, 36, 37, 38, 39, 40] (by decide +kernel) (by decide +kernel)
set_option maxRecDepth 20000 in
theorem gX4_greatest_X4_pointNow : GoodIn wsX4_greatest (wsV RX4 105 RX4 yX4_pointNow wsX4_pointNow) := goodIn_app (goodIn_of _ (by decide +kernel)) ggX4_greatest_X4_pointNow
set_option maxRecDepth 20000 in
theorem ggX4_greatest_X4_amount : GoodIn wsX4_greatest wsX4_amount := goodIn_r _ [28] (by decide +kernel) (by decide +kernel)
set_option maxRecDepth 20000 in
theorem gX4_greatest_X4_amount : GoodIn wsX4_greatest (va_wsS RX4 65 yX4_amount wsX4_amount) := goodIn_app (goodIn_of _ (by decide +kernel)) ggX4_greatest_X4_amount
theorem dX4_greatest_0 : decode cX4_greatest 0 = .ok (.iconst 0, 1) := by decide +kernel
theorem dX4_greatest_1 : decode cX4_greatest 1 = .ok (.istore_n 2, 1) := by decide +kernel
theorem dX4_greatest_2 : decode cX4_greatest 2 = .ok (.iconst 0, 1) := by decide +kernel
theorem dX4_greatest_3 : decode cX4_greatest 3 = .ok (.istore_n 3, 1) := by decide +kernel
theorem dX4_greatest_4 : decode cX4_greatest 4 = .ok (.iload_n 3, 1) := by decide +kernel
theorem dX4_greatest_5 : decode cX4_greatest 5 = .ok (.bipush 8, 2) := by decide +kernel
theorem dX4_greatest_7 : decode cX4_greatest 7 = .ok (.if_icmp .ge 33, 3) := by decide +kernel
theorem dX4_greatest_10 : decode cX4_greatest 10 = .ok (.aload_n 0, 1) := by decide +kernel
theorem dX4_greatest_11 : decode cX4_greatest 11 = .ok (.iload_n 3, 1) := by decide +kernel
theorem dX4_greatest_12 : decode cX4_greatest 12 = .ok (.iload_n 1, 1) := by decide +kernel
theorem dX4_greatest_13 : decode cX4_greatest 13 = .ok (.invokevirtual 105, 3) := by decide +kernel
theorem dX4_greatest_16 : decode cX4_greatest 16 = .ok (.invokestatic 65, 3) := by decide +kernel
theorem dX4_greatest_19 : decode cX4_greatest 19 = .ok (.istore 4, 2) := by decide +kernel
theorem dX4_greatest_21 : decode cX4_greatest 21 = .ok (.iload 4, 2) := by decide +kernel
theorem dX4_greatest_23 : decode cX4_greatest 23 = .ok (.iload_n 2, 1) := by decide +kernel
theorem dX4_greatest_24 : decode cX4_greatest 24 = .ok (.if_icmp .le 8, 3) := by decide +kernel
theorem dX4_greatest_27 : decode cX4_greatest 27 = .ok (.iload 4, 2) := by decide +kernel
theorem dX4_greatest_29 : decode cX4_greatest 29 = .ok (.goto 4, 3) := by decide +kernel
theorem dX4_greatest_32 : decode cX4_greatest 32 = .ok (.iload_n 2, 1) := by decide +kernel
theorem dX4_greatest_33 : decode cX4_greatest 33 = .ok (.istore_n 2, 1) := by decide +kernel
theorem dX4_greatest_34 : decode cX4_greatest 34 = .ok (.iinc 3 1, 3) := by decide +kernel
theorem dX4_greatest_37 : decode cX4_greatest 37 = .ok (.goto (-33), 3) := by decide +kernel
theorem dX4_greatest_40 : decode cX4_greatest 40 = .ok (.iload_n 2, 1) := by decide +kernel
theorem dX4_greatest_41 : decode cX4_greatest 41 = .ok (.ireturn, 1) := by decide +kernel
set_option maxRecDepth 20000 in
theorem ggX4_overshoot_X4_greatestTrace : GoodIn wsX4_overshoot wsX4_greatestTrace := goodIn_r _ [5, 6, 7, 8, 4, 9, 10, 11, 12, 13, 14, 15, 16, 17, 25, 26, 27, 28, 29, 30, 31, 32, 33, 34, 35, 36] (by decide +kernel) (by decide +kernel)
set_option maxRecDepth 20000 in
theorem gX4_overshoot_X4_greatestTrace : GoodIn wsX4_overshoot (wsV RX4 108 RX4 yX4_greatestTrace wsX4_greatestTrace) := goodIn_app (goodIn_of _ (by decide +kernel)) ggX4_overshoot_X4_greatestTrace
set_option maxRecDepth 20000 in
theorem ggX4_overshoot_X4_amount : GoodIn wsX4_overshoot wsX4_amount := goodIn_r _ [20] (by decide +kernel) (by decide +kernel)
set_option maxRecDepth 20000 in
theorem gX4_overshoot_X4_amount : GoodIn wsX4_overshoot (va_wsS RX4 65 yX4_amount wsX4_amount) := goodIn_app (goodIn_of _ (by decide +kernel)) ggX4_overshoot_X4_amount
set_option maxRecDepth 20000 in
theorem ggX4_overshoot_X4_leastTrace : GoodIn wsX4_overshoot wsX4_leastTrace := goodIn_r _ [24, 6, 7, 8, 4, 9, 10, 11, 12, 13, 14, 15, 16, 17, 25, 26, 27, 28, 29, 30, 31, 32, 33, 34, 35, 36] (by decide +kernel) (by decide +kernel)
set_option maxRecDepth 20000 in
theorem gX4_overshoot_X4_leastTrace : GoodIn wsX4_overshoot (wsV RX4 111 RX4 yX4_leastTrace wsX4_leastTrace) := goodIn_app (goodIn_of _ (by decide +kernel)) ggX4_overshoot_X4_leastTrace
set_option maxRecDepth 20000 in
theorem ggX4_overshoot_X4_used : GoodIn wsX4_overshoot wsX4_used := goodIn_r _ [13, 14, 25, 26, 27, 28, 29, 30, 31, 32, 33, 34, 35, 36] (by decide +kernel) (by decide +kernel)
set_option maxRecDepth 20000 in
theorem gX4_overshoot_X4_used : GoodIn wsX4_overshoot (wsV RX4 37 RX4 yX4_used wsX4_used) := goodIn_app (goodIn_of _ (by decide +kernel)) ggX4_overshoot_X4_used
theorem dX4_overshoot_0 : decode cX4_overshoot 0 = .ok (.aload_n 0, 1) := by decide +kernel
theorem dX4_overshoot_1 : decode cX4_overshoot 1 = .ok (.invokevirtual 108, 3) := by decide +kernel
theorem dX4_overshoot_4 : decode cX4_overshoot 4 = .ok (.invokestatic 65, 3) := by decide +kernel
theorem dX4_overshoot_7 : decode cX4_overshoot 7 = .ok (.istore_n 1, 1) := by decide +kernel
theorem dX4_overshoot_8 : decode cX4_overshoot 8 = .ok (.aload_n 0, 1) := by decide +kernel
theorem dX4_overshoot_9 : decode cX4_overshoot 9 = .ok (.invokevirtual 111, 3) := by decide +kernel
theorem dX4_overshoot_12 : decode cX4_overshoot 12 = .ok (.invokestatic 65, 3) := by decide +kernel
theorem dX4_overshoot_15 : decode cX4_overshoot 15 = .ok (.istore_n 2, 1) := by decide +kernel
theorem dX4_overshoot_16 : decode cX4_overshoot 16 = .ok (.iload_n 1, 1) := by decide +kernel
theorem dX4_overshoot_17 : decode cX4_overshoot 17 = .ok (.iload_n 2, 1) := by decide +kernel
theorem dX4_overshoot_18 : decode cX4_overshoot 18 = .ok (.if_icmp .le 7, 3) := by decide +kernel
theorem dX4_overshoot_21 : decode cX4_overshoot 21 = .ok (.iload_n 1, 1) := by decide +kernel
theorem dX4_overshoot_22 : decode cX4_overshoot 22 = .ok (.goto 4, 3) := by decide +kernel
theorem dX4_overshoot_25 : decode cX4_overshoot 25 = .ok (.iload_n 2, 1) := by decide +kernel
theorem dX4_overshoot_26 : decode cX4_overshoot 26 = .ok (.aload_n 0, 1) := by decide +kernel
theorem dX4_overshoot_27 : decode cX4_overshoot 27 = .ok (.iconst 0, 1) := by decide +kernel
theorem dX4_overshoot_28 : decode cX4_overshoot 28 = .ok (.invokevirtual 37, 3) := by decide +kernel
theorem dX4_overshoot_31 : decode cX4_overshoot 31 = .ok (.invokestatic 65, 3) := by decide +kernel
theorem dX4_overshoot_34 : decode cX4_overshoot 34 = .ok (.isub, 1) := by decide +kernel
theorem dX4_overshoot_35 : decode cX4_overshoot 35 = .ok (.ireturn, 1) := by decide +kernel
set_option maxRecDepth 20000 in
theorem ggX4_countNow_X4_turning : GoodIn wsX4_countNow wsX4_turning := goodIn_r _ [7, 1, 54, 55, 56, 57, 58, 59, 60, 61, 62, 63, 64, 65] (by decide +kernel) (by decide +kernel)
set_option maxRecDepth 20000 in
theorem gX4_countNow_X4_turning : GoodIn wsX4_countNow (wsV RX4 51 RX4 yX4_turning wsX4_turning) := goodIn_app (goodIn_of _ (by decide +kernel)) ggX4_countNow_X4_turning
set_option maxRecDepth 20000 in
theorem ggX4_countNow_X4_lost : GoodIn wsX4_countNow wsX4_lost := goodIn_r _ [11, 1, 54, 55, 56, 57, 58, 59, 60, 61, 62, 63, 64, 65] (by decide +kernel) (by decide +kernel)
set_option maxRecDepth 20000 in
theorem gX4_countNow_X4_lost : GoodIn wsX4_countNow (wsV RX4 114 RX4 yX4_lost wsX4_lost) := goodIn_app (goodIn_of _ (by decide +kernel)) ggX4_countNow_X4_lost
set_option maxRecDepth 20000 in
theorem ggX4_countNow_X4_greatestTrace : GoodIn wsX4_countNow wsX4_greatestTrace := goodIn_r _ [15, 16, 17, 18, 6, 19, 20, 21, 22, 23, 1, 24, 25, 26, 54, 55, 56, 57, 58, 59, 60, 61, 62, 63, 64, 65] (by decide +kernel) (by decide +kernel)
set_option maxRecDepth 20000 in
theorem gX4_countNow_X4_greatestTrace : GoodIn wsX4_countNow (wsV RX4 108 RX4 yX4_greatestTrace wsX4_greatestTrace) := goodIn_app (goodIn_of _ (by decide +kernel)) ggX4_countNow_X4_greatestTrace
set_option maxRecDepth 20000 in
theorem ggX4_countNow_X4_leastTrace : GoodIn wsX4_countNow wsX4_leastTrace := goodIn_r _ [30, 16, 17, 18, 6, 19, 20, 21, 22, 23, 1, 24, 25, 26, 54, 55, 56, 57, 58, 59, 60, 61, 62, 63, 64, 65] (by decide +kernel) (by decide +kernel)
set_option maxRecDepth 20000 in
theorem gX4_countNow_X4_leastTrace : GoodIn wsX4_countNow (wsV RX4 111 RX4 yX4_leastTrace wsX4_leastTrace) := goodIn_app (goodIn_of _ (by decide +kernel)) ggX4_countNow_X4_leastTrace
set_option maxRecDepth 20000 in
theorem ggX4_countNow_X4_greatest : GoodIn wsX4_countNow wsX4_greatest := goodIn_r _ [34, 35, 36, 37, 6, 38, 1, 39, 40, 41, 42, 16, 17, 18, 19, 20, 21, 22, 23, 24, 25, 26, 43, 44, 45, 46, 47, 48, 49, 54, 55, 56, 57, 58, 59, 60, 61, 62, 63, 64, 65] (by decide +kernel) (by decide +kernel)
set_option maxRecDepth 20000 in
theorem gX4_countNow_X4_greatest : GoodIn wsX4_countNow (wsV RX4 117 RX4 yX4_greatest wsX4_greatest) := goodIn_app (goodIn_of _ (by decide +kernel)) ggX4_countNow_X4_greatest
set_option maxRecDepth 20000 in
theorem ggX4_countNow_X4_overshoot : GoodIn wsX4_countNow wsX4_overshoot := goodIn_r _ [53, 12, 13, 14, 6, 15, 16, 17, 18, 19, 20, 21, 22, 23, 1, 24, 25, 26, 47, 48, 49, 27, 28, 29, 30, 54, 55, 56, 57, 58, 59, 60, 61, 62, 63, 64, 65] (by decide +kernel) (by decide +kernel)
set_option maxRecDepth 20000 in
theorem gX4_countNow_X4_overshoot : GoodIn wsX4_countNow (wsV RX4 120 RX4 yX4_overshoot wsX4_overshoot) := goodIn_app (goodIn_of _ (by decide +kernel)) ggX4_countNow_X4_overshoot
theorem dX4_countNow_0 : decode cX4_countNow 0 = .ok (.iload_n 1, 1) := by decide +kernel
theorem dX4_countNow_1 : decode cX4_countNow 1 = .ok (.tableswitch 92 0 7 #[47, 52, 57, 62, 67, 73, 79, 84], 47) := by decide +kernel
theorem dX4_countNow_48 : decode cX4_countNow 48 = .ok (.aload_n 0, 1) := by decide +kernel
theorem dX4_countNow_49 : decode cX4_countNow 49 = .ok (.invokevirtual 51, 3) := by decide +kernel
theorem dX4_countNow_52 : decode cX4_countNow 52 = .ok (.ireturn, 1) := by decide +kernel
theorem dX4_countNow_53 : decode cX4_countNow 53 = .ok (.aload_n 0, 1) := by decide +kernel
theorem dX4_countNow_54 : decode cX4_countNow 54 = .ok (.invokevirtual 114, 3) := by decide +kernel
theorem dX4_countNow_57 : decode cX4_countNow 57 = .ok (.ireturn, 1) := by decide +kernel
theorem dX4_countNow_58 : decode cX4_countNow 58 = .ok (.aload_n 0, 1) := by decide +kernel
theorem dX4_countNow_59 : decode cX4_countNow 59 = .ok (.invokevirtual 108, 3) := by decide +kernel
theorem dX4_countNow_62 : decode cX4_countNow 62 = .ok (.ireturn, 1) := by decide +kernel
theorem dX4_countNow_63 : decode cX4_countNow 63 = .ok (.aload_n 0, 1) := by decide +kernel
theorem dX4_countNow_64 : decode cX4_countNow 64 = .ok (.invokevirtual 111, 3) := by decide +kernel
theorem dX4_countNow_67 : decode cX4_countNow 67 = .ok (.ireturn, 1) := by decide +kernel
theorem dX4_countNow_68 : decode cX4_countNow 68 = .ok (.aload_n 0, 1) := by decide +kernel
theorem dX4_countNow_69 : decode cX4_countNow 69 = .ok (.iconst 1, 1) := by decide +kernel
theorem dX4_countNow_70 : decode cX4_countNow 70 = .ok (.invokevirtual 117, 3) := by decide +kernel
theorem dX4_countNow_73 : decode cX4_countNow 73 = .ok (.ireturn, 1) := by decide +kernel
theorem dX4_countNow_74 : decode cX4_countNow 74 = .ok (.aload_n 0, 1) := by decide +kernel
theorem dX4_countNow_75 : decode cX4_countNow 75 = .ok (.iconst 2, 1) := by decide +kernel
theorem dX4_countNow_76 : decode cX4_countNow 76 = .ok (.invokevirtual 117, 3) := by decide +kernel
theorem dX4_countNow_79 : decode cX4_countNow 79 = .ok (.ireturn, 1) := by decide +kernel
theorem dX4_countNow_80 : decode cX4_countNow 80 = .ok (.aload_n 0, 1) := by decide +kernel
theorem dX4_countNow_81 : decode cX4_countNow 81 = .ok (.invokevirtual 120, 3) := by decide +kernel
theorem dX4_countNow_84 : decode cX4_countNow 84 = .ok (.ireturn, 1) := by decide +kernel
theorem dX4_countNow_85 : decode cX4_countNow 85 = .ok (.aload_n 0, 1) := by decide +kernel
theorem dX4_countNow_86 : decode cX4_countNow 86 = .ok (.getfield 7, 3) := by decide +kernel
theorem dX4_countNow_89 : decode cX4_countNow 89 = .ok (.bipush 24, 2) := by decide +kernel
theorem dX4_countNow_91 : decode cX4_countNow 91 = .ok (.iaload, 1) := by decide +kernel
theorem dX4_countNow_92 : decode cX4_countNow 92 = .ok (.ireturn, 1) := by decide +kernel
theorem dX4_countNow_93 : decode cX4_countNow 93 = .ok (.aload_n 0, 1) := by decide +kernel
theorem dX4_countNow_94 : decode cX4_countNow 94 = .ok (.getfield 48, 3) := by decide +kernel
theorem dX4_countNow_97 : decode cX4_countNow 97 = .ok (.ireturn, 1) := by decide +kernel
set_option maxRecDepth 20000 in
theorem ggX4_count_X4_in : GoodIn wsX4_count wsX4_in := goodIn_r _ [5] (by decide +kernel) (by decide +kernel)
set_option maxRecDepth 20000 in
theorem gX4_count_X4_in : GoodIn wsX4_count (va_wsS RX4 33 yX4_in wsX4_in) := goodIn_app (goodIn_of _ (by decide +kernel)) ggX4_count_X4_in
set_option maxRecDepth 20000 in
theorem ggX4_count_X4_countNow : GoodIn wsX4_count wsX4_countNow := goodIn_r _ [9, 10, 11, 12, 13, 14, 4, 15, 16, 17, 18, 19, 20, 21, 22, 23, 24, 25, 26, 27, 28, 29, 30, 31, 32, 33, 34, 35, 36, 37, 38, 39, 40, 41, 42, 43, 44, 45, 46, 47, 48, 49, 50, 51, 52, 53, 54, 55, 56, 57, 58, 59, 60, 61, 62, 63, 64, 65, 66, 67, 68, 69, 70, 71, 72, 73] (by decide +kernel) (by decide +kernel)
set_option maxRecDepth 20000 in
theorem gX4_count_X4_countNow : GoodIn wsX4_count (wsV RX4 123 RX4 yX4_countNow wsX4_countNow) := goodIn_app (goodIn_of _ (by decide +kernel)) ggX4_count_X4_countNow
theorem dX4_count_0 : decode cX4_count 0 = .ok (.aload_n 0, 1) := by decide +kernel
theorem dX4_count_1 : decode cX4_count 1 = .ok (.iload_n 1, 1) := by decide +kernel
theorem dX4_count_2 : decode cX4_count 2 = .ok (.iconst 0, 1) := by decide +kernel
theorem dX4_count_3 : decode cX4_count 3 = .ok (.bipush 8, 2) := by decide +kernel
theorem dX4_count_5 : decode cX4_count 5 = .ok (.invokestatic 33, 3) := by decide +kernel
theorem dX4_count_8 : decode cX4_count 8 = .ok (.ifCond .eq 7, 3) := by decide +kernel
theorem dX4_count_11 : decode cX4_count 11 = .ok (.iconst 0, 1) := by decide +kernel
theorem dX4_count_12 : decode cX4_count 12 = .ok (.goto 4, 3) := by decide +kernel
theorem dX4_count_15 : decode cX4_count 15 = .ok (.iconst 1, 1) := by decide +kernel
theorem dX4_count_16 : decode cX4_count 16 = .ok (.putfield 29, 3) := by decide +kernel
theorem dX4_count_19 : decode cX4_count 19 = .ok (.aload_n 0, 1) := by decide +kernel
theorem dX4_count_20 : decode cX4_count 20 = .ok (.getfield 29, 3) := by decide +kernel
theorem dX4_count_23 : decode cX4_count 23 = .ok (.ifCond .le 7, 3) := by decide +kernel
theorem dX4_count_26 : decode cX4_count 26 = .ok (.iconst 0, 1) := by decide +kernel
theorem dX4_count_27 : decode cX4_count 27 = .ok (.goto 8, 3) := by decide +kernel
theorem dX4_count_30 : decode cX4_count 30 = .ok (.aload_n 0, 1) := by decide +kernel
theorem dX4_count_31 : decode cX4_count 31 = .ok (.iload_n 1, 1) := by decide +kernel
theorem dX4_count_32 : decode cX4_count 32 = .ok (.invokevirtual 123, 3) := by decide +kernel
theorem dX4_count_35 : decode cX4_count 35 = .ok (.ireturn, 1) := by decide +kernel
set_option maxRecDepth 20000 in
theorem ggX4_explaining_X4_difference : GoodIn wsX4_explaining wsX4_difference := goodIn_r _ [5, 6, 7, 8, 9, 4, 10, 11, 12, 13, 14, 15, 16, 17, 18, 19, 20, 21, 22, 23, 24, 25, 26, 27, 28, 29] (by decide +kernel) (by decide +kernel)
set_option maxRecDepth 20000 in
theorem gX4_explaining_X4_difference : GoodIn wsX4_explaining (wsV RX4 68 RX4 yX4_difference wsX4_difference) := goodIn_app (goodIn_of _ (by decide +kernel)) ggX4_explaining_X4_difference
set_option maxRecDepth 20000 in
theorem ggX4_explaining_X4_wave : GoodIn wsX4_explaining wsX4_wave := goodIn_r _ [17] (by decide +kernel) (by decide +kernel)
set_option maxRecDepth 20000 in
theorem gX4_explaining_X4_wave : GoodIn wsX4_explaining (va_wsS RX4 41 yX4_wave wsX4_wave) := goodIn_app (goodIn_of _ (by decide +kernel)) ggX4_explaining_X4_wave
theorem dX4_explaining_0 : decode cX4_explaining 0 = .ok (.aload_n 0, 1) := by decide +kernel
theorem dX4_explaining_1 : decode cX4_explaining 1 = .ok (.iconst 0, 1) := by decide +kernel
theorem dX4_explaining_2 : decode cX4_explaining 2 = .ok (.invokevirtual 68, 3) := by decide +kernel
theorem dX4_explaining_5 : decode cX4_explaining 5 = .ok (.istore_n 1, 1) := by decide +kernel
theorem dX4_explaining_6 : decode cX4_explaining 6 = .ok (.iconst 0, 1) := by decide +kernel
theorem dX4_explaining_7 : decode cX4_explaining 7 = .ok (.istore_n 2, 1) := by decide +kernel
theorem dX4_explaining_8 : decode cX4_explaining 8 = .ok (.iload_n 2, 1) := by decide +kernel
theorem dX4_explaining_9 : decode cX4_explaining 9 = .ok (.bipush 8, 2) := by decide +kernel
theorem dX4_explaining_11 : decode cX4_explaining 11 = .ok (.if_icmp .ge 64, 3) := by decide +kernel
theorem dX4_explaining_14 : decode cX4_explaining 14 = .ok (.iload_n 1, 1) := by decide +kernel
theorem dX4_explaining_15 : decode cX4_explaining 15 = .ok (.ifCond .eq 60, 3) := by decide +kernel
theorem dX4_explaining_18 : decode cX4_explaining 18 = .ok (.iconst 1, 1) := by decide +kernel
theorem dX4_explaining_19 : decode cX4_explaining 19 = .ok (.istore_n 3, 1) := by decide +kernel
theorem dX4_explaining_20 : decode cX4_explaining 20 = .ok (.iconst 1, 1) := by decide +kernel
theorem dX4_explaining_21 : decode cX4_explaining 21 = .ok (.istore 4, 2) := by decide +kernel
theorem dX4_explaining_23 : decode cX4_explaining 23 = .ok (.iload 4, 2) := by decide +kernel
theorem dX4_explaining_25 : decode cX4_explaining 25 = .ok (.bipush 8, 2) := by decide +kernel
theorem dX4_explaining_27 : decode cX4_explaining 27 = .ok (.if_icmp .ge 36, 3) := by decide +kernel
theorem dX4_explaining_30 : decode cX4_explaining 30 = .ok (.iload_n 3, 1) := by decide +kernel
theorem dX4_explaining_31 : decode cX4_explaining 31 = .ok (.ifCond .eq 24, 3) := by decide +kernel
theorem dX4_explaining_34 : decode cX4_explaining 34 = .ok (.aload_n 0, 1) := by decide +kernel
theorem dX4_explaining_35 : decode cX4_explaining 35 = .ok (.iload 4, 2) := by decide +kernel
theorem dX4_explaining_37 : decode cX4_explaining 37 = .ok (.invokevirtual 68, 3) := by decide +kernel
theorem dX4_explaining_40 : decode cX4_explaining 40 = .ok (.iload_n 1, 1) := by decide +kernel
theorem dX4_explaining_41 : decode cX4_explaining 41 = .ok (.iload_n 2, 1) := by decide +kernel
theorem dX4_explaining_42 : decode cX4_explaining 42 = .ok (.iload 4, 2) := by decide +kernel
theorem dX4_explaining_44 : decode cX4_explaining 44 = .ok (.invokestatic 41, 3) := by decide +kernel
theorem dX4_explaining_47 : decode cX4_explaining 47 = .ok (.imul, 1) := by decide +kernel
theorem dX4_explaining_48 : decode cX4_explaining 48 = .ok (.if_icmp .ne 7, 3) := by decide +kernel
theorem dX4_explaining_51 : decode cX4_explaining 51 = .ok (.iconst 1, 1) := by decide +kernel
theorem dX4_explaining_52 : decode cX4_explaining 52 = .ok (.goto 4, 3) := by decide +kernel
theorem dX4_explaining_55 : decode cX4_explaining 55 = .ok (.iconst 0, 1) := by decide +kernel
theorem dX4_explaining_56 : decode cX4_explaining 56 = .ok (.istore_n 3, 1) := by decide +kernel
theorem dX4_explaining_57 : decode cX4_explaining 57 = .ok (.iinc 4 1, 3) := by decide +kernel
theorem dX4_explaining_60 : decode cX4_explaining 60 = .ok (.goto (-37), 3) := by decide +kernel
theorem dX4_explaining_63 : decode cX4_explaining 63 = .ok (.iload_n 3, 1) := by decide +kernel
theorem dX4_explaining_64 : decode cX4_explaining 64 = .ok (.ifCond .eq 5, 3) := by decide +kernel
theorem dX4_explaining_67 : decode cX4_explaining 67 = .ok (.iload_n 2, 1) := by decide +kernel
theorem dX4_explaining_68 : decode cX4_explaining 68 = .ok (.ireturn, 1) := by decide +kernel
theorem dX4_explaining_69 : decode cX4_explaining 69 = .ok (.iinc 2 1, 3) := by decide +kernel
theorem dX4_explaining_72 : decode cX4_explaining 72 = .ok (.goto (-64), 3) := by decide +kernel
theorem dX4_explaining_75 : decode cX4_explaining 75 = .ok (.iconst (-1), 1) := by decide +kernel
theorem dX4_explaining_76 : decode cX4_explaining 76 = .ok (.ireturn, 1) := by decide +kernel
set_option maxRecDepth 20000 in
theorem ggX4_findLost_X4_explaining : GoodIn wsX4_findLost wsX4_explaining := goodIn_r _ [6, 7, 8, 9, 5, 10, 11, 12, 13, 14, 15, 16, 17, 18, 19, 20, 21, 22, 23, 24, 25, 26, 27, 28, 29, 30, 31, 32, 33, 34] (by decide +kernel) (by decide +kernel)
set_option maxRecDepth 20000 in
theorem gX4_findLost_X4_explaining : GoodIn wsX4_findLost (wsV RX4 126 RX4 yX4_explaining wsX4_explaining) := goodIn_app (goodIn_of _ (by decide +kernel)) ggX4_findLost_X4_explaining
theorem dX4_findLost_0 : decode cX4_findLost 0 = .ok (.aload_n 0, 1) := by decide +kernel
theorem dX4_findLost_1 : decode cX4_findLost 1 = .ok (.iconst 0, 1) := by decide +kernel
theorem dX4_findLost_2 : decode cX4_findLost 2 = .ok (.putfield 29, 3) := by decide +kernel
theorem dX4_findLost_5 : decode cX4_findLost 5 = .ok (.aload_n 0, 1) := by decide +kernel
theorem dX4_findLost_6 : decode cX4_findLost 6 = .ok (.invokevirtual 126, 3) := by decide +kernel
theorem dX4_findLost_9 : decode cX4_findLost 9 = .ok (.ireturn, 1) := by decide +kernel
set_option maxRecDepth 20000 in
theorem ggX4_fewest_X4_used : GoodIn wsX4_fewest wsX4_used := goodIn_r _ [7, 2, 11, 12, 13, 14, 15, 16, 17, 18, 19, 20, 21, 22] (by decide +kernel) (by decide +kernel)
set_option maxRecDepth 20000 in
theorem gX4_fewest_X4_used : GoodIn wsX4_fewest (wsV RX4 37 RX4 yX4_used wsX4_used) := goodIn_app (goodIn_of _ (by decide +kernel)) ggX4_fewest_X4_used
set_option maxRecDepth 20000 in
theorem ggX4_fewest_X4_amount : GoodIn wsX4_fewest wsX4_amount := goodIn_r _ [10] (by decide +kernel) (by decide +kernel)
set_option maxRecDepth 20000 in
theorem gX4_fewest_X4_amount : GoodIn wsX4_fewest (va_wsS RX4 65 yX4_amount wsX4_amount) := goodIn_app (goodIn_of _ (by decide +kernel)) ggX4_fewest_X4_amount
theorem dX4_fewest_0 : decode cX4_fewest 0 = .ok (.iconst 0, 1) := by decide +kernel
theorem dX4_fewest_1 : decode cX4_fewest 1 = .ok (.istore_n 2, 1) := by decide +kernel
theorem dX4_fewest_2 : decode cX4_fewest 2 = .ok (.iconst 0, 1) := by decide +kernel
theorem dX4_fewest_3 : decode cX4_fewest 3 = .ok (.istore_n 3, 1) := by decide +kernel
theorem dX4_fewest_4 : decode cX4_fewest 4 = .ok (.iload_n 3, 1) := by decide +kernel
theorem dX4_fewest_5 : decode cX4_fewest 5 = .ok (.bipush 8, 2) := by decide +kernel
theorem dX4_fewest_7 : decode cX4_fewest 7 = .ok (.if_icmp .ge 45, 3) := by decide +kernel
theorem dX4_fewest_10 : decode cX4_fewest 10 = .ok (.aload_n 0, 1) := by decide +kernel
theorem dX4_fewest_11 : decode cX4_fewest 11 = .ok (.getfield 26, 3) := by decide +kernel
theorem dX4_fewest_14 : decode cX4_fewest 14 = .ok (.iload_n 3, 1) := by decide +kernel
theorem dX4_fewest_15 : decode cX4_fewest 15 = .ok (.aload_n 0, 1) := by decide +kernel
theorem dX4_fewest_16 : decode cX4_fewest 16 = .ok (.iload_n 3, 1) := by decide +kernel
theorem dX4_fewest_17 : decode cX4_fewest 17 = .ok (.invokevirtual 37, 3) := by decide +kernel
theorem dX4_fewest_20 : decode cX4_fewest 20 = .ok (.ifCond .ne 7, 3) := by decide +kernel
theorem dX4_fewest_23 : decode cX4_fewest 23 = .ok (.iconst 1, 1) := by decide +kernel
theorem dX4_fewest_24 : decode cX4_fewest 24 = .ok (.goto 4, 3) := by decide +kernel
theorem dX4_fewest_27 : decode cX4_fewest 27 = .ok (.iconst 0, 1) := by decide +kernel
theorem dX4_fewest_28 : decode cX4_fewest 28 = .ok (.bastore, 1) := by decide +kernel
theorem dX4_fewest_29 : decode cX4_fewest 29 = .ok (.iload_n 2, 1) := by decide +kernel
theorem dX4_fewest_30 : decode cX4_fewest 30 = .ok (.aload_n 0, 1) := by decide +kernel
theorem dX4_fewest_31 : decode cX4_fewest 31 = .ok (.getfield 26, 3) := by decide +kernel
theorem dX4_fewest_34 : decode cX4_fewest 34 = .ok (.iload_n 3, 1) := by decide +kernel
theorem dX4_fewest_35 : decode cX4_fewest 35 = .ok (.baload, 1) := by decide +kernel
theorem dX4_fewest_36 : decode cX4_fewest 36 = .ok (.ifCond .eq 7, 3) := by decide +kernel
theorem dX4_fewest_39 : decode cX4_fewest 39 = .ok (.iconst 0, 1) := by decide +kernel
theorem dX4_fewest_40 : decode cX4_fewest 40 = .ok (.goto 4, 3) := by decide +kernel
theorem dX4_fewest_43 : decode cX4_fewest 43 = .ok (.iconst 1, 1) := by decide +kernel
theorem dX4_fewest_44 : decode cX4_fewest 44 = .ok (.iadd, 1) := by decide +kernel
theorem dX4_fewest_45 : decode cX4_fewest 45 = .ok (.istore_n 2, 1) := by decide +kernel
theorem dX4_fewest_46 : decode cX4_fewest 46 = .ok (.iinc 3 1, 3) := by decide +kernel
theorem dX4_fewest_49 : decode cX4_fewest 49 = .ok (.goto (-45), 3) := by decide +kernel
theorem dX4_fewest_52 : decode cX4_fewest 52 = .ok (.iload_n 1, 1) := by decide +kernel
theorem dX4_fewest_53 : decode cX4_fewest 53 = .ok (.istore_n 3, 1) := by decide +kernel
theorem dX4_fewest_54 : decode cX4_fewest 54 = .ok (.iload_n 2, 1) := by decide +kernel
theorem dX4_fewest_55 : decode cX4_fewest 55 = .ok (.ifCond .le 7, 3) := by decide +kernel
theorem dX4_fewest_58 : decode cX4_fewest 58 = .ok (.iconst 1, 1) := by decide +kernel
theorem dX4_fewest_59 : decode cX4_fewest 59 = .ok (.goto 4, 3) := by decide +kernel
theorem dX4_fewest_62 : decode cX4_fewest 62 = .ok (.iconst 0, 1) := by decide +kernel
theorem dX4_fewest_63 : decode cX4_fewest 63 = .ok (.istore 4, 2) := by decide +kernel
theorem dX4_fewest_65 : decode cX4_fewest 65 = .ok (.iload 4, 2) := by decide +kernel
theorem dX4_fewest_67 : decode cX4_fewest 67 = .ok (.ifCond .eq 141, 3) := by decide +kernel
theorem dX4_fewest_70 : decode cX4_fewest 70 = .ok (.iconst (-1), 1) := by decide +kernel
theorem dX4_fewest_71 : decode cX4_fewest 71 = .ok (.istore 5, 2) := by decide +kernel
theorem dX4_fewest_73 : decode cX4_fewest 73 = .ok (.iconst 0, 1) := by decide +kernel
theorem dX4_fewest_74 : decode cX4_fewest 74 = .ok (.istore 6, 2) := by decide +kernel
theorem dX4_fewest_76 : decode cX4_fewest 76 = .ok (.iload 6, 2) := by decide +kernel
theorem dX4_fewest_78 : decode cX4_fewest 78 = .ok (.bipush 8, 2) := by decide +kernel
theorem dX4_fewest_80 : decode cX4_fewest 80 = .ok (.if_icmp .ge 56, 3) := by decide +kernel
theorem dX4_fewest_83 : decode cX4_fewest 83 = .ok (.aload_n 0, 1) := by decide +kernel
theorem dX4_fewest_84 : decode cX4_fewest 84 = .ok (.getfield 26, 3) := by decide +kernel
theorem dX4_fewest_87 : decode cX4_fewest 87 = .ok (.iload 6, 2) := by decide +kernel
theorem dX4_fewest_89 : decode cX4_fewest 89 = .ok (.baload, 1) := by decide +kernel
theorem dX4_fewest_90 : decode cX4_fewest 90 = .ok (.ifCond .ne 36, 3) := by decide +kernel
theorem dX4_fewest_93 : decode cX4_fewest 93 = .ok (.iload 5, 2) := by decide +kernel
theorem dX4_fewest_95 : decode cX4_fewest 95 = .ok (.ifCond .lt 26, 3) := by decide +kernel
theorem dX4_fewest_98 : decode cX4_fewest 98 = .ok (.aload_n 0, 1) := by decide +kernel
theorem dX4_fewest_99 : decode cX4_fewest 99 = .ok (.getfield 7, 3) := by decide +kernel
theorem dX4_fewest_102 : decode cX4_fewest 102 = .ok (.iload 6, 2) := by decide +kernel
theorem dX4_fewest_104 : decode cX4_fewest 104 = .ok (.iaload, 1) := by decide +kernel
theorem dX4_fewest_105 : decode cX4_fewest 105 = .ok (.invokestatic 65, 3) := by decide +kernel
theorem dX4_fewest_108 : decode cX4_fewest 108 = .ok (.aload_n 0, 1) := by decide +kernel
theorem dX4_fewest_109 : decode cX4_fewest 109 = .ok (.getfield 7, 3) := by decide +kernel
theorem dX4_fewest_112 : decode cX4_fewest 112 = .ok (.iload 5, 2) := by decide +kernel
theorem dX4_fewest_114 : decode cX4_fewest 114 = .ok (.iaload, 1) := by decide +kernel
theorem dX4_fewest_115 : decode cX4_fewest 115 = .ok (.invokestatic 65, 3) := by decide +kernel
theorem dX4_fewest_118 : decode cX4_fewest 118 = .ok (.if_icmp .ge 8, 3) := by decide +kernel
theorem dX4_fewest_121 : decode cX4_fewest 121 = .ok (.iload 6, 2) := by decide +kernel
theorem dX4_fewest_123 : decode cX4_fewest 123 = .ok (.goto 5, 3) := by decide +kernel
theorem dX4_fewest_126 : decode cX4_fewest 126 = .ok (.iload 5, 2) := by decide +kernel
theorem dX4_fewest_128 : decode cX4_fewest 128 = .ok (.istore 5, 2) := by decide +kernel
theorem dX4_fewest_130 : decode cX4_fewest 130 = .ok (.iinc 6 1, 3) := by decide +kernel
theorem dX4_fewest_133 : decode cX4_fewest 133 = .ok (.goto (-57), 3) := by decide +kernel
theorem dX4_fewest_136 : decode cX4_fewest 136 = .ok (.iload_n 3, 1) := by decide +kernel
theorem dX4_fewest_137 : decode cX4_fewest 137 = .ok (.bipush 8, 2) := by decide +kernel
theorem dX4_fewest_139 : decode cX4_fewest 139 = .ok (.aload_n 0, 1) := by decide +kernel
theorem dX4_fewest_140 : decode cX4_fewest 140 = .ok (.getfield 7, 3) := by decide +kernel
theorem dX4_fewest_143 : decode cX4_fewest 143 = .ok (.iload 5, 2) := by decide +kernel
theorem dX4_fewest_145 : decode cX4_fewest 145 = .ok (.iaload, 1) := by decide +kernel
theorem dX4_fewest_146 : decode cX4_fewest 146 = .ok (.imul, 1) := by decide +kernel
theorem dX4_fewest_147 : decode cX4_fewest 147 = .ok (.aload_n 0, 1) := by decide +kernel
theorem dX4_fewest_148 : decode cX4_fewest 148 = .ok (.getfield 7, 3) := by decide +kernel
theorem dX4_fewest_151 : decode cX4_fewest 151 = .ok (.iload 5, 2) := by decide +kernel
theorem dX4_fewest_153 : decode cX4_fewest 153 = .ok (.iaload, 1) := by decide +kernel
theorem dX4_fewest_154 : decode cX4_fewest 154 = .ok (.imul, 1) := by decide +kernel
theorem dX4_fewest_155 : decode cX4_fewest 155 = .ok (.isub, 1) := by decide +kernel
theorem dX4_fewest_156 : decode cX4_fewest 156 = .ok (.istore_n 3, 1) := by decide +kernel
theorem dX4_fewest_157 : decode cX4_fewest 157 = .ok (.iload_n 3, 1) := by decide +kernel
theorem dX4_fewest_158 : decode cX4_fewest 158 = .ok (.ifCond .lt 7, 3) := by decide +kernel
theorem dX4_fewest_161 : decode cX4_fewest 161 = .ok (.iconst 1, 1) := by decide +kernel
theorem dX4_fewest_162 : decode cX4_fewest 162 = .ok (.goto 4, 3) := by decide +kernel
theorem dX4_fewest_165 : decode cX4_fewest 165 = .ok (.iconst 0, 1) := by decide +kernel
theorem dX4_fewest_166 : decode cX4_fewest 166 = .ok (.istore 4, 2) := by decide +kernel
theorem dX4_fewest_168 : decode cX4_fewest 168 = .ok (.aload_n 0, 1) := by decide +kernel
theorem dX4_fewest_169 : decode cX4_fewest 169 = .ok (.getfield 26, 3) := by decide +kernel
theorem dX4_fewest_172 : decode cX4_fewest 172 = .ok (.iload 5, 2) := by decide +kernel
theorem dX4_fewest_174 : decode cX4_fewest 174 = .ok (.iconst 1, 1) := by decide +kernel
theorem dX4_fewest_175 : decode cX4_fewest 175 = .ok (.bastore, 1) := by decide +kernel
theorem dX4_fewest_176 : decode cX4_fewest 176 = .ok (.iload_n 2, 1) := by decide +kernel
theorem dX4_fewest_177 : decode cX4_fewest 177 = .ok (.iload 4, 2) := by decide +kernel
theorem dX4_fewest_179 : decode cX4_fewest 179 = .ok (.ifCond .eq 7, 3) := by decide +kernel
theorem dX4_fewest_182 : decode cX4_fewest 182 = .ok (.iconst 1, 1) := by decide +kernel
theorem dX4_fewest_183 : decode cX4_fewest 183 = .ok (.goto 4, 3) := by decide +kernel
theorem dX4_fewest_186 : decode cX4_fewest 186 = .ok (.iconst 0, 1) := by decide +kernel
theorem dX4_fewest_187 : decode cX4_fewest 187 = .ok (.isub, 1) := by decide +kernel
theorem dX4_fewest_188 : decode cX4_fewest 188 = .ok (.istore_n 2, 1) := by decide +kernel
theorem dX4_fewest_189 : decode cX4_fewest 189 = .ok (.iload 4, 2) := by decide +kernel
theorem dX4_fewest_191 : decode cX4_fewest 191 = .ok (.ifCond .eq 11, 3) := by decide +kernel
theorem dX4_fewest_194 : decode cX4_fewest 194 = .ok (.iload_n 2, 1) := by decide +kernel
theorem dX4_fewest_195 : decode cX4_fewest 195 = .ok (.ifCond .le 7, 3) := by decide +kernel
theorem dX4_fewest_198 : decode cX4_fewest 198 = .ok (.iconst 1, 1) := by decide +kernel
theorem dX4_fewest_199 : decode cX4_fewest 199 = .ok (.goto 4, 3) := by decide +kernel
theorem dX4_fewest_202 : decode cX4_fewest 202 = .ok (.iconst 0, 1) := by decide +kernel
theorem dX4_fewest_203 : decode cX4_fewest 203 = .ok (.istore 4, 2) := by decide +kernel
theorem dX4_fewest_205 : decode cX4_fewest 205 = .ok (.goto (-140), 3) := by decide +kernel
theorem dX4_fewest_208 : decode cX4_fewest 208 = .ok (.iload_n 2, 1) := by decide +kernel
theorem dX4_fewest_209 : decode cX4_fewest 209 = .ok (.ireturn, 1) := by decide +kernel
set_option maxRecDepth 20000 in
theorem ggX4_enough_X4_in : GoodIn wsX4_enough wsX4_in := goodIn_r _ [6] (by decide +kernel) (by decide +kernel)
set_option maxRecDepth 20000 in
theorem gX4_enough_X4_in : GoodIn wsX4_enough (va_wsS RX4 33 yX4_in wsX4_in) := goodIn_app (goodIn_of _ (by decide +kernel)) ggX4_enough_X4_in
set_option maxRecDepth 20000 in
theorem ggX4_enough_X4_fewest : GoodIn wsX4_enough wsX4_fewest := goodIn_r _ [10, 11, 12, 13, 14, 15, 5, 16, 17, 18, 19, 20, 21, 22, 23, 24, 25, 26, 27, 28, 29, 30, 31] (by decide +kernel) (by decide +kernel)
set_option maxRecDepth 20000 in
theorem gX4_enough_X4_fewest : GoodIn wsX4_enough (wsV RX4 130 RX4 yX4_fewest wsX4_fewest) := goodIn_app (goodIn_of _ (by decide +kernel)) ggX4_enough_X4_fewest
theorem dX4_enough_0 : decode cX4_enough 0 = .ok (.aload_n 0, 1) := by decide +kernel
theorem dX4_enough_1 : decode cX4_enough 1 = .ok (.iload_n 1, 1) := by decide +kernel
theorem dX4_enough_2 : decode cX4_enough 2 = .ok (.iconst 0, 1) := by decide +kernel
theorem dX4_enough_3 : decode cX4_enough 3 = .ok (.ldc 129, 2) := by decide +kernel
theorem dX4_enough_5 : decode cX4_enough 5 = .ok (.invokestatic 33, 3) := by decide +kernel
theorem dX4_enough_8 : decode cX4_enough 8 = .ok (.ifCond .eq 16, 3) := by decide +kernel
theorem dX4_enough_11 : decode cX4_enough 11 = .ok (.iload_n 2, 1) := by decide +kernel
theorem dX4_enough_12 : decode cX4_enough 12 = .ok (.iconst 0, 1) := by decide +kernel
theorem dX4_enough_13 : decode cX4_enough 13 = .ok (.iconst 1, 1) := by decide +kernel
theorem dX4_enough_14 : decode cX4_enough 14 = .ok (.invokestatic 33, 3) := by decide +kernel
theorem dX4_enough_17 : decode cX4_enough 17 = .ok (.ifCond .eq 7, 3) := by decide +kernel
theorem dX4_enough_20 : decode cX4_enough 20 = .ok (.iconst 0, 1) := by decide +kernel
theorem dX4_enough_21 : decode cX4_enough 21 = .ok (.goto 4, 3) := by decide +kernel
theorem dX4_enough_24 : decode cX4_enough 24 = .ok (.iconst 1, 1) := by decide +kernel
theorem dX4_enough_25 : decode cX4_enough 25 = .ok (.putfield 29, 3) := by decide +kernel
theorem dX4_enough_28 : decode cX4_enough 28 = .ok (.aload_n 0, 1) := by decide +kernel
theorem dX4_enough_29 : decode cX4_enough 29 = .ok (.getfield 29, 3) := by decide +kernel
theorem dX4_enough_32 : decode cX4_enough 32 = .ok (.ifCond .le 7, 3) := by decide +kernel
theorem dX4_enough_35 : decode cX4_enough 35 = .ok (.iconst 0, 1) := by decide +kernel
theorem dX4_enough_36 : decode cX4_enough 36 = .ok (.goto 8, 3) := by decide +kernel
theorem dX4_enough_39 : decode cX4_enough 39 = .ok (.aload_n 0, 1) := by decide +kernel
theorem dX4_enough_40 : decode cX4_enough 40 = .ok (.iload_n 1, 1) := by decide +kernel
theorem dX4_enough_41 : decode cX4_enough 41 = .ok (.invokevirtual 130, 3) := by decide +kernel
theorem dX4_enough_44 : decode cX4_enough 44 = .ok (.ireturn, 1) := by decide +kernel
set_option maxRecDepth 20000 in
theorem ggX4_ifTurned_X4_isOne : GoodIn wsX4_ifTurned wsX4_isOne := goodIn_r _ [5, 6, 7, 4, 8] (by decide +kernel) (by decide +kernel)
set_option maxRecDepth 20000 in
theorem gX4_ifTurned_X4_isOne : GoodIn wsX4_ifTurned (va_wsS RX4 58 yX4_isOne wsX4_isOne) := goodIn_app (goodIn_of _ (by decide +kernel)) ggX4_ifTurned_X4_isOne
set_option maxRecDepth 20000 in
theorem ggX4_ifTurned_X4_traceAt : GoodIn wsX4_ifTurned wsX4_traceAt := goodIn_r _ [12, 13, 14, 15, 4, 16, 17, 18, 19, 20, 21, 22, 23, 24, 25, 26, 27, 28, 29, 30, 31, 32] (by decide +kernel) (by decide +kernel)
set_option maxRecDepth 20000 in
theorem gX4_ifTurned_X4_traceAt : GoodIn wsX4_ifTurned (wsV RX4 45 RX4 yX4_traceAt wsX4_traceAt) := goodIn_app (goodIn_of _ (by decide +kernel)) ggX4_ifTurned_X4_traceAt
theorem dX4_ifTurned_0 : decode cX4_ifTurned 0 = .ok (.aload_n 0, 1) := by decide +kernel
theorem dX4_ifTurned_1 : decode cX4_ifTurned 1 = .ok (.iload_n 2, 1) := by decide +kernel
theorem dX4_ifTurned_2 : decode cX4_ifTurned 2 = .ok (.invokestatic 58, 3) := by decide +kernel
theorem dX4_ifTurned_5 : decode cX4_ifTurned 5 = .ok (.ifCond .ne 7, 3) := by decide +kernel
theorem dX4_ifTurned_8 : decode cX4_ifTurned 8 = .ok (.iconst 1, 1) := by decide +kernel
theorem dX4_ifTurned_9 : decode cX4_ifTurned 9 = .ok (.goto 15, 3) := by decide +kernel
theorem dX4_ifTurned_12 : decode cX4_ifTurned 12 = .ok (.iload_n 1, 1) := by decide +kernel
theorem dX4_ifTurned_13 : decode cX4_ifTurned 13 = .ok (.invokestatic 58, 3) := by decide +kernel
theorem dX4_ifTurned_16 : decode cX4_ifTurned 16 = .ok (.ifCond .eq 7, 3) := by decide +kernel
theorem dX4_ifTurned_19 : decode cX4_ifTurned 19 = .ok (.iconst 0, 1) := by decide +kernel
theorem dX4_ifTurned_20 : decode cX4_ifTurned 20 = .ok (.goto 4, 3) := by decide +kernel
theorem dX4_ifTurned_23 : decode cX4_ifTurned 23 = .ok (.iconst 2, 1) := by decide +kernel
theorem dX4_ifTurned_24 : decode cX4_ifTurned 24 = .ok (.putfield 29, 3) := by decide +kernel
theorem dX4_ifTurned_27 : decode cX4_ifTurned 27 = .ok (.aload_n 0, 1) := by decide +kernel
theorem dX4_ifTurned_28 : decode cX4_ifTurned 28 = .ok (.getfield 29, 3) := by decide +kernel
theorem dX4_ifTurned_31 : decode cX4_ifTurned 31 = .ok (.ifCond .le 7, 3) := by decide +kernel
theorem dX4_ifTurned_34 : decode cX4_ifTurned 34 = .ok (.iconst 0, 1) := by decide +kernel
theorem dX4_ifTurned_35 : decode cX4_ifTurned 35 = .ok (.goto 10, 3) := by decide +kernel
theorem dX4_ifTurned_38 : decode cX4_ifTurned 38 = .ok (.aload_n 0, 1) := by decide +kernel
theorem dX4_ifTurned_39 : decode cX4_ifTurned 39 = .ok (.iload_n 2, 1) := by decide +kernel
theorem dX4_ifTurned_40 : decode cX4_ifTurned 40 = .ok (.iload_n 1, 1) := by decide +kernel
theorem dX4_ifTurned_41 : decode cX4_ifTurned 41 = .ok (.ixor, 1) := by decide +kernel
theorem dX4_ifTurned_42 : decode cX4_ifTurned 42 = .ok (.invokevirtual 45, 3) := by decide +kernel
theorem dX4_ifTurned_45 : decode cX4_ifTurned 45 = .ok (.ireturn, 1) := by decide +kernel
set_option maxRecDepth 20000 in
theorem ggX4_far_X4_traceAt : GoodIn wsX4_far wsX4_traceAt := goodIn_r _ [6, 7, 8, 9, 5, 10, 1, 11, 12, 13, 17, 18, 19, 20, 21, 22, 23, 24, 25, 26, 27, 28] (by decide +kernel) (by decide +kernel)
set_option maxRecDepth 20000 in
theorem gX4_far_X4_traceAt : GoodIn wsX4_far (wsV RX4 45 RX4 yX4_traceAt wsX4_traceAt) := goodIn_app (goodIn_of _ (by decide +kernel)) ggX4_far_X4_traceAt
set_option maxRecDepth 20000 in
theorem ggX4_far_X4_amount : GoodIn wsX4_far wsX4_amount := goodIn_r _ [16] (by decide +kernel) (by decide +kernel)
set_option maxRecDepth 20000 in
theorem gX4_far_X4_amount : GoodIn wsX4_far (va_wsS RX4 65 yX4_amount wsX4_amount) := goodIn_app (goodIn_of _ (by decide +kernel)) ggX4_far_X4_amount
theorem dX4_far_0 : decode cX4_far 0 = .ok (.iconst 0, 1) := by decide +kernel
theorem dX4_far_1 : decode cX4_far 1 = .ok (.istore_n 2, 1) := by decide +kernel
theorem dX4_far_2 : decode cX4_far 2 = .ok (.iconst 0, 1) := by decide +kernel
theorem dX4_far_3 : decode cX4_far 3 = .ok (.istore_n 3, 1) := by decide +kernel
theorem dX4_far_4 : decode cX4_far 4 = .ok (.iload_n 3, 1) := by decide +kernel
theorem dX4_far_5 : decode cX4_far 5 = .ok (.bipush 8, 2) := by decide +kernel
theorem dX4_far_7 : decode cX4_far 7 = .ok (.if_icmp .ge 32, 3) := by decide +kernel
theorem dX4_far_10 : decode cX4_far 10 = .ok (.iload_n 2, 1) := by decide +kernel
theorem dX4_far_11 : decode cX4_far 11 = .ok (.aload_n 0, 1) := by decide +kernel
theorem dX4_far_12 : decode cX4_far 12 = .ok (.getfield 7, 3) := by decide +kernel
theorem dX4_far_15 : decode cX4_far 15 = .ok (.bipush 16, 2) := by decide +kernel
theorem dX4_far_17 : decode cX4_far 17 = .ok (.iload_n 3, 1) := by decide +kernel
theorem dX4_far_18 : decode cX4_far 18 = .ok (.iadd, 1) := by decide +kernel
theorem dX4_far_19 : decode cX4_far 19 = .ok (.iaload, 1) := by decide +kernel
theorem dX4_far_20 : decode cX4_far 20 = .ok (.aload_n 0, 1) := by decide +kernel
theorem dX4_far_21 : decode cX4_far 21 = .ok (.iload_n 3, 1) := by decide +kernel
theorem dX4_far_22 : decode cX4_far 22 = .ok (.iload_n 1, 1) := by decide +kernel
theorem dX4_far_23 : decode cX4_far 23 = .ok (.ixor, 1) := by decide +kernel
theorem dX4_far_24 : decode cX4_far 24 = .ok (.invokevirtual 45, 3) := by decide +kernel
theorem dX4_far_27 : decode cX4_far 27 = .ok (.isub, 1) := by decide +kernel
theorem dX4_far_28 : decode cX4_far 28 = .ok (.invokestatic 65, 3) := by decide +kernel
theorem dX4_far_31 : decode cX4_far 31 = .ok (.iadd, 1) := by decide +kernel
theorem dX4_far_32 : decode cX4_far 32 = .ok (.istore_n 2, 1) := by decide +kernel
theorem dX4_far_33 : decode cX4_far 33 = .ok (.iinc 3 1, 3) := by decide +kernel
theorem dX4_far_36 : decode cX4_far 36 = .ok (.goto (-32), 3) := by decide +kernel
theorem dX4_far_39 : decode cX4_far 39 = .ok (.iload_n 2, 1) := by decide +kernel
theorem dX4_far_40 : decode cX4_far 40 = .ok (.ireturn, 1) := by decide +kernel
set_option maxRecDepth 20000 in
theorem ggX4_nearestTurn_X4_far : GoodIn wsX4_nearestTurn wsX4_far := goodIn_r _ [5, 6, 7, 8, 9, 4, 10, 11, 12, 13, 14, 15, 16, 17, 18, 19, 20, 21, 22, 23, 24, 25, 26, 27, 28, 29, 30, 31, 32] (by decide +kernel) (by decide +kernel)
set_option maxRecDepth 20000 in
theorem gX4_nearestTurn_X4_far : GoodIn wsX4_nearestTurn (wsV RX4 133 RX4 yX4_far wsX4_far) := goodIn_app (goodIn_of _ (by decide +kernel)) ggX4_nearestTurn_X4_far
theorem dX4_nearestTurn_0 : decode cX4_nearestTurn 0 = .ok (.iconst 0, 1) := by decide +kernel
theorem dX4_nearestTurn_1 : decode cX4_nearestTurn 1 = .ok (.istore_n 1, 1) := by decide +kernel
theorem dX4_nearestTurn_2 : decode cX4_nearestTurn 2 = .ok (.iconst 1, 1) := by decide +kernel
theorem dX4_nearestTurn_3 : decode cX4_nearestTurn 3 = .ok (.istore_n 2, 1) := by decide +kernel
theorem dX4_nearestTurn_4 : decode cX4_nearestTurn 4 = .ok (.iload_n 2, 1) := by decide +kernel
theorem dX4_nearestTurn_5 : decode cX4_nearestTurn 5 = .ok (.bipush 8, 2) := by decide +kernel
theorem dX4_nearestTurn_7 : decode cX4_nearestTurn 7 = .ok (.if_icmp .ge 28, 3) := by decide +kernel
theorem dX4_nearestTurn_10 : decode cX4_nearestTurn 10 = .ok (.aload_n 0, 1) := by decide +kernel
theorem dX4_nearestTurn_11 : decode cX4_nearestTurn 11 = .ok (.iload_n 2, 1) := by decide +kernel
theorem dX4_nearestTurn_12 : decode cX4_nearestTurn 12 = .ok (.invokevirtual 133, 3) := by decide +kernel
theorem dX4_nearestTurn_15 : decode cX4_nearestTurn 15 = .ok (.aload_n 0, 1) := by decide +kernel
theorem dX4_nearestTurn_16 : decode cX4_nearestTurn 16 = .ok (.iload_n 1, 1) := by decide +kernel
theorem dX4_nearestTurn_17 : decode cX4_nearestTurn 17 = .ok (.invokevirtual 133, 3) := by decide +kernel
theorem dX4_nearestTurn_20 : decode cX4_nearestTurn 20 = .ok (.if_icmp .ge 7, 3) := by decide +kernel
theorem dX4_nearestTurn_23 : decode cX4_nearestTurn 23 = .ok (.iload_n 2, 1) := by decide +kernel
theorem dX4_nearestTurn_24 : decode cX4_nearestTurn 24 = .ok (.goto 4, 3) := by decide +kernel
theorem dX4_nearestTurn_27 : decode cX4_nearestTurn 27 = .ok (.iload_n 1, 1) := by decide +kernel
theorem dX4_nearestTurn_28 : decode cX4_nearestTurn 28 = .ok (.istore_n 1, 1) := by decide +kernel
theorem dX4_nearestTurn_29 : decode cX4_nearestTurn 29 = .ok (.iinc 2 1, 3) := by decide +kernel
theorem dX4_nearestTurn_32 : decode cX4_nearestTurn 32 = .ok (.goto (-28), 3) := by decide +kernel
theorem dX4_nearestTurn_35 : decode cX4_nearestTurn 35 = .ok (.iload_n 1, 1) := by decide +kernel
theorem dX4_nearestTurn_36 : decode cX4_nearestTurn 36 = .ok (.ireturn, 1) := by decide +kernel
set_option maxRecDepth 20000 in
theorem ggX4_bestTurn_X4_nearestTurn : GoodIn wsX4_bestTurn wsX4_nearestTurn := goodIn_r _ [6, 7, 8, 9, 5, 10, 11, 12, 13, 14, 15, 16, 17, 18, 19, 20, 21, 22, 23, 24, 25, 26, 27, 28, 29, 30, 31, 32, 33, 34, 35, 36, 37] (by decide +kernel) (by decide +kernel)
set_option maxRecDepth 20000 in
theorem gX4_bestTurn_X4_nearestTurn : GoodIn wsX4_bestTurn (wsV RX4 136 RX4 yX4_nearestTurn wsX4_nearestTurn) := goodIn_app (goodIn_of _ (by decide +kernel)) ggX4_bestTurn_X4_nearestTurn
theorem dX4_bestTurn_0 : decode cX4_bestTurn 0 = .ok (.aload_n 0, 1) := by decide +kernel
theorem dX4_bestTurn_1 : decode cX4_bestTurn 1 = .ok (.iconst 0, 1) := by decide +kernel
theorem dX4_bestTurn_2 : decode cX4_bestTurn 2 = .ok (.putfield 29, 3) := by decide +kernel
theorem dX4_bestTurn_5 : decode cX4_bestTurn 5 = .ok (.aload_n 0, 1) := by decide +kernel
theorem dX4_bestTurn_6 : decode cX4_bestTurn 6 = .ok (.invokevirtual 136, 3) := by decide +kernel
theorem dX4_bestTurn_9 : decode cX4_bestTurn 9 = .ok (.ireturn, 1) := by decide +kernel
set_option maxRecDepth 20000 in
theorem ggX4_share_X4_used : GoodIn wsX4_share wsX4_used := goodIn_r _ [5, 6, 7, 8, 9, 10, 11, 12, 13, 14, 15, 16, 17, 18] (by decide +kernel) (by decide +kernel)
set_option maxRecDepth 20000 in
theorem gX4_share_X4_used : GoodIn wsX4_share (wsV RX4 37 RX4 yX4_used wsX4_used) := goodIn_app (goodIn_of _ (by decide +kernel)) ggX4_share_X4_used
theorem dX4_share_0 : decode cX4_share 0 = .ok (.iconst 0, 1) := by decide +kernel
theorem dX4_share_1 : decode cX4_share 1 = .ok (.istore_n 1, 1) := by decide +kernel
theorem dX4_share_2 : decode cX4_share 2 = .ok (.iconst 0, 1) := by decide +kernel
theorem dX4_share_3 : decode cX4_share 3 = .ok (.istore_n 2, 1) := by decide +kernel
theorem dX4_share_4 : decode cX4_share 4 = .ok (.iconst 0, 1) := by decide +kernel
theorem dX4_share_5 : decode cX4_share 5 = .ok (.istore_n 3, 1) := by decide +kernel
theorem dX4_share_6 : decode cX4_share 6 = .ok (.iload_n 3, 1) := by decide +kernel
theorem dX4_share_7 : decode cX4_share 7 = .ok (.bipush 8, 2) := by decide +kernel
theorem dX4_share_9 : decode cX4_share 9 = .ok (.if_icmp .ge 40, 3) := by decide +kernel
theorem dX4_share_12 : decode cX4_share 12 = .ok (.aload_n 0, 1) := by decide +kernel
theorem dX4_share_13 : decode cX4_share 13 = .ok (.iload_n 3, 1) := by decide +kernel
theorem dX4_share_14 : decode cX4_share 14 = .ok (.invokevirtual 37, 3) := by decide +kernel
theorem dX4_share_17 : decode cX4_share 17 = .ok (.aload_n 0, 1) := by decide +kernel
theorem dX4_share_18 : decode cX4_share 18 = .ok (.iload_n 3, 1) := by decide +kernel
theorem dX4_share_19 : decode cX4_share 19 = .ok (.invokevirtual 37, 3) := by decide +kernel
theorem dX4_share_22 : decode cX4_share 22 = .ok (.imul, 1) := by decide +kernel
theorem dX4_share_23 : decode cX4_share 23 = .ok (.istore 4, 2) := by decide +kernel
theorem dX4_share_25 : decode cX4_share 25 = .ok (.iload 4, 2) := by decide +kernel
theorem dX4_share_27 : decode cX4_share 27 = .ok (.iload_n 1, 1) := by decide +kernel
theorem dX4_share_28 : decode cX4_share 28 = .ok (.if_icmp .le 8, 3) := by decide +kernel
theorem dX4_share_31 : decode cX4_share 31 = .ok (.iload 4, 2) := by decide +kernel
theorem dX4_share_33 : decode cX4_share 33 = .ok (.goto 4, 3) := by decide +kernel
theorem dX4_share_36 : decode cX4_share 36 = .ok (.iload_n 1, 1) := by decide +kernel
theorem dX4_share_37 : decode cX4_share 37 = .ok (.istore_n 1, 1) := by decide +kernel
theorem dX4_share_38 : decode cX4_share 38 = .ok (.iload_n 2, 1) := by decide +kernel
theorem dX4_share_39 : decode cX4_share 39 = .ok (.iload 4, 2) := by decide +kernel
theorem dX4_share_41 : decode cX4_share 41 = .ok (.iadd, 1) := by decide +kernel
theorem dX4_share_42 : decode cX4_share 42 = .ok (.istore_n 2, 1) := by decide +kernel
theorem dX4_share_43 : decode cX4_share 43 = .ok (.iinc 3 1, 3) := by decide +kernel
theorem dX4_share_46 : decode cX4_share 46 = .ok (.goto (-40), 3) := by decide +kernel
theorem dX4_share_49 : decode cX4_share 49 = .ok (.iload_n 2, 1) := by decide +kernel
theorem dX4_share_50 : decode cX4_share 50 = .ok (.ifCond .ne 7, 3) := by decide +kernel
theorem dX4_share_53 : decode cX4_share 53 = .ok (.dconst 0, 1) := by decide +kernel
theorem dX4_share_54 : decode cX4_share 54 = .ok (.goto 8, 3) := by decide +kernel
theorem dX4_share_57 : decode cX4_share 57 = .ok (.iload_n 1, 1) := by decide +kernel
theorem dX4_share_58 : decode cX4_share 58 = .ok (.i2d, 1) := by decide +kernel
theorem dX4_share_59 : decode cX4_share 59 = .ok (.iload_n 2, 1) := by decide +kernel
theorem dX4_share_60 : decode cX4_share 60 = .ok (.i2d, 1) := by decide +kernel
theorem dX4_share_61 : decode cX4_share 61 = .ok (.ddiv, 1) := by decide +kernel
theorem dX4_share_62 : decode cX4_share 62 = .ok (.dreturn, 1) := by decide +kernel
set_option maxRecDepth 20000 in
theorem ggX4_mainShare_X4_share : GoodIn wsX4_mainShare wsX4_share := goodIn_r _ [6, 7, 8, 9, 5, 10, 11, 12, 13, 14, 15, 16, 17, 18, 19, 20, 21, 22, 23] (by decide +kernel) (by decide +kernel)
set_option maxRecDepth 20000 in
theorem gX4_mainShare_X4_share : GoodIn wsX4_mainShare (wsV RX4 139 RX4 yX4_share wsX4_share) := goodIn_app (goodIn_of _ (by decide +kernel)) ggX4_mainShare_X4_share
theorem dX4_mainShare_0 : decode cX4_mainShare 0 = .ok (.aload_n 0, 1) := by decide +kernel
theorem dX4_mainShare_1 : decode cX4_mainShare 1 = .ok (.iconst 0, 1) := by decide +kernel
theorem dX4_mainShare_2 : decode cX4_mainShare 2 = .ok (.putfield 29, 3) := by decide +kernel
theorem dX4_mainShare_5 : decode cX4_mainShare 5 = .ok (.aload_n 0, 1) := by decide +kernel
theorem dX4_mainShare_6 : decode cX4_mainShare 6 = .ok (.invokevirtual 139, 3) := by decide +kernel
theorem dX4_mainShare_9 : decode cX4_mainShare 9 = .ok (.dreturn, 1) := by decide +kernel
set_option maxRecDepth 20000 in
theorem ggX4_digest_X4_countNow : GoodIn wsX4_digest wsX4_countNow := goodIn_r _ [12, 13, 14, 15, 16, 17, 11, 18, 19, 20, 21, 22, 23, 24, 25, 26, 27, 28, 29, 30, 31, 32, 33, 34, 35, 36, 37, 38, 39, 40, 41, 42, 43, 44, 45, 46, 47, 48, 49, 50, 51, 52, 53, 54, 55, 56, 57, 58, 59, 60, 61, 62, 63, 64, 109, 110, 111, 112, 113, 114, 115, 116, 117, 118, 119, 120] (by decide +kernel) (by decide +kernel)
set_option maxRecDepth 20000 in
theorem gX4_digest_X4_countNow : GoodIn wsX4_digest (wsV RX4 123 RX4 yX4_countNow wsX4_countNow) := goodIn_app (goodIn_of _ (by decide +kernel)) ggX4_digest_X4_countNow
set_option maxRecDepth 20000 in
theorem ggX4_digest_X4_wheelNow : GoodIn wsX4_digest wsX4_wheelNow := goodIn_r _ [68, 13, 69, 70, 71, 11, 72, 35, 36, 37, 73, 74, 75, 109, 110, 111, 112, 113, 114, 115, 116, 117, 118, 119, 120] (by decide +kernel) (by decide +kernel)
set_option maxRecDepth 20000 in
theorem gX4_digest_X4_wheelNow : GoodIn wsX4_digest (wsV RX4 99 RX4 yX4_wheelNow wsX4_wheelNow) := goodIn_app (goodIn_of _ (by decide +kernel)) ggX4_digest_X4_wheelNow
set_option maxRecDepth 20000 in
theorem ggX4_digest_X4_traceAt : GoodIn wsX4_digest wsX4_traceAt := goodIn_r _ [30, 31, 32, 33, 11, 34, 13, 35, 36, 37, 109, 110, 111, 112, 113, 114, 115, 116, 117, 118, 119, 120] (by decide +kernel) (by decide +kernel)
set_option maxRecDepth 20000 in
theorem gX4_digest_X4_traceAt : GoodIn wsX4_digest (wsV RX4 45 RX4 yX4_traceAt wsX4_traceAt) := goodIn_app (goodIn_of _ (by decide +kernel)) ggX4_digest_X4_traceAt
set_option maxRecDepth 20000 in
theorem ggX4_digest_X4_pointNow : GoodIn wsX4_digest wsX4_pointNow := goodIn_r _ [49, 13, 50, 51, 52, 11, 53, 27, 28, 29, 30, 31, 32, 33, 34, 35, 36, 37, 54, 55, 56, 57, 109, 110, 111, 112, 113, 114, 115, 116, 117, 118, 119, 120] (by decide +kernel) (by decide +kernel)
set_option maxRecDepth 20000 in
theorem gX4_digest_X4_pointNow : GoodIn wsX4_digest (wsV RX4 105 RX4 yX4_pointNow wsX4_pointNow) := goodIn_app (goodIn_of _ (by decide +kernel)) ggX4_digest_X4_pointNow
set_option maxRecDepth 20000 in
theorem ggX4_digest_X4_explaining : GoodIn wsX4_digest wsX4_explaining := goodIn_r _ [79, 50, 51, 52, 11, 53, 13, 27, 28, 29, 30, 31, 32, 33, 34, 35, 36, 37, 109, 110, 111, 112, 113, 114, 115, 116, 117, 118, 119, 120] (by decide +kernel) (by decide +kernel)
set_option maxRecDepth 20000 in
theorem gX4_digest_X4_explaining : GoodIn wsX4_digest (wsV RX4 126 RX4 yX4_explaining wsX4_explaining) := goodIn_app (goodIn_of _ (by decide +kernel)) ggX4_digest_X4_explaining
set_option maxRecDepth 20000 in
theorem ggX4_digest_X4_fewest : GoodIn wsX4_digest wsX4_fewest := goodIn_r _ [83, 84, 13, 31, 32, 33, 11, 34, 58, 59, 60, 109, 110, 111, 112, 113, 114, 115, 116, 117, 118, 119, 120] (by decide +kernel) (by decide +kernel)
set_option maxRecDepth 20000 in
theorem gX4_digest_X4_fewest : GoodIn wsX4_digest (wsV RX4 130 RX4 yX4_fewest wsX4_fewest) := goodIn_app (goodIn_of _ (by decide +kernel)) ggX4_digest_X4_fewest
set_option maxRecDepth 20000 in
theorem ggX4_digest_X4_nearestTurn : GoodIn wsX4_digest wsX4_nearestTurn := goodIn_r _ [88, 89, 90, 91, 11, 92, 13, 27, 28, 29, 30, 31, 32, 33, 34, 35, 36, 37, 58, 59, 60, 109, 110, 111, 112, 113, 114, 115, 116, 117, 118, 119, 120] (by decide +kernel) (by decide +kernel)
set_option maxRecDepth 20000 in
theorem gX4_digest_X4_nearestTurn : GoodIn wsX4_digest (wsV RX4 136 RX4 yX4_nearestTurn wsX4_nearestTurn) := goodIn_app (goodIn_of _ (by decide +kernel)) ggX4_digest_X4_nearestTurn
set_option maxRecDepth 20000 in
theorem ggX4_digest_X4_share : GoodIn wsX4_digest wsX4_share := goodIn_r _ [96, 31, 32, 33, 11, 34, 13, 109, 110, 111, 112, 113, 114, 115, 116, 117, 118, 119, 120] (by decide +kernel) (by decide +kernel)
set_option maxRecDepth 20000 in
theorem gX4_digest_X4_share : GoodIn wsX4_digest (wsV RX4 139 RX4 yX4_share wsX4_share) := goodIn_app (goodIn_of _ (by decide +kernel)) ggX4_digest_X4_share
set_option maxRecDepth 20000 in
theorem ggX4_digest_Jxe99ae_doubleToLongBits_ccdee : GoodIn wsX4_digest wsJxe99ae_doubleToLongBits_ccdee := goodIn_r _ [100, 101, 102, 103, 104, 105, 106, 107, 99, 108] (by decide +kernel) (by decide +kernel)
set_option maxRecDepth 20000 in
theorem gX4_digest_Jxe99ae_doubleToLongBits_ccdee : GoodIn wsX4_digest (va_wsS RX4 148 yJxe99ae_doubleToLongBits_ccdee wsJxe99ae_doubleToLongBits_ccdee) := goodIn_app (goodIn_of _ (by decide +kernel)) ggX4_digest_Jxe99ae_doubleToLongBits_ccdee
theorem dX4_digest_0 : decode cX4_digest 0 = .ok (.aload_n 0, 1) := by decide +kernel
theorem dX4_digest_1 : decode cX4_digest 1 = .ok (.iconst 0, 1) := by decide +kernel
theorem dX4_digest_2 : decode cX4_digest 2 = .ok (.putfield 29, 3) := by decide +kernel
theorem dX4_digest_5 : decode cX4_digest 5 = .ok (.ldc2_w 143, 3) := by decide +kernel
theorem dX4_digest_8 : decode cX4_digest 8 = .ok (.lstore_n 1, 1) := by decide +kernel
theorem dX4_digest_9 : decode cX4_digest 9 = .ok (.iconst 0, 1) := by decide +kernel
theorem dX4_digest_10 : decode cX4_digest 10 = .ok (.istore_n 3, 1) := by decide +kernel
theorem dX4_digest_11 : decode cX4_digest 11 = .ok (.iload_n 3, 1) := by decide +kernel
theorem dX4_digest_12 : decode cX4_digest 12 = .ok (.bipush 9, 2) := by decide +kernel
theorem dX4_digest_14 : decode cX4_digest 14 = .ok (.if_icmp .ge 22, 3) := by decide +kernel
theorem dX4_digest_17 : decode cX4_digest 17 = .ok (.ldc2_w 145, 3) := by decide +kernel
theorem dX4_digest_20 : decode cX4_digest 20 = .ok (.lload_n 1, 1) := by decide +kernel
theorem dX4_digest_21 : decode cX4_digest 21 = .ok (.lmul, 1) := by decide +kernel
theorem dX4_digest_22 : decode cX4_digest 22 = .ok (.aload_n 0, 1) := by decide +kernel
theorem dX4_digest_23 : decode cX4_digest 23 = .ok (.iload_n 3, 1) := by decide +kernel
theorem dX4_digest_24 : decode cX4_digest 24 = .ok (.invokevirtual 123, 3) := by decide +kernel
theorem dX4_digest_27 : decode cX4_digest 27 = .ok (.i2l, 1) := by decide +kernel
theorem dX4_digest_28 : decode cX4_digest 28 = .ok (.ladd, 1) := by decide +kernel
theorem dX4_digest_29 : decode cX4_digest 29 = .ok (.lstore_n 1, 1) := by decide +kernel
theorem dX4_digest_30 : decode cX4_digest 30 = .ok (.iinc 3 1, 3) := by decide +kernel
theorem dX4_digest_33 : decode cX4_digest 33 = .ok (.goto (-22), 3) := by decide +kernel
theorem dX4_digest_36 : decode cX4_digest 36 = .ok (.iconst 0, 1) := by decide +kernel
theorem dX4_digest_37 : decode cX4_digest 37 = .ok (.istore_n 3, 1) := by decide +kernel
theorem dX4_digest_38 : decode cX4_digest 38 = .ok (.iload_n 3, 1) := by decide +kernel
theorem dX4_digest_39 : decode cX4_digest 39 = .ok (.bipush 32, 2) := by decide +kernel
theorem dX4_digest_41 : decode cX4_digest 41 = .ok (.if_icmp .ge 27, 3) := by decide +kernel
theorem dX4_digest_44 : decode cX4_digest 44 = .ok (.ldc2_w 145, 3) := by decide +kernel
theorem dX4_digest_47 : decode cX4_digest 47 = .ok (.lload_n 1, 1) := by decide +kernel
theorem dX4_digest_48 : decode cX4_digest 48 = .ok (.lmul, 1) := by decide +kernel
theorem dX4_digest_49 : decode cX4_digest 49 = .ok (.aload_n 0, 1) := by decide +kernel
theorem dX4_digest_50 : decode cX4_digest 50 = .ok (.iload_n 3, 1) := by decide +kernel
theorem dX4_digest_51 : decode cX4_digest 51 = .ok (.iconst 4, 1) := by decide +kernel
theorem dX4_digest_52 : decode cX4_digest 52 = .ok (.idiv, 1) := by decide +kernel
theorem dX4_digest_53 : decode cX4_digest 53 = .ok (.iload_n 3, 1) := by decide +kernel
theorem dX4_digest_54 : decode cX4_digest 54 = .ok (.iconst 4, 1) := by decide +kernel
theorem dX4_digest_55 : decode cX4_digest 55 = .ok (.irem, 1) := by decide +kernel
theorem dX4_digest_56 : decode cX4_digest 56 = .ok (.invokevirtual 99, 3) := by decide +kernel
theorem dX4_digest_59 : decode cX4_digest 59 = .ok (.i2l, 1) := by decide +kernel
theorem dX4_digest_60 : decode cX4_digest 60 = .ok (.ladd, 1) := by decide +kernel
theorem dX4_digest_61 : decode cX4_digest 61 = .ok (.lstore_n 1, 1) := by decide +kernel
theorem dX4_digest_62 : decode cX4_digest 62 = .ok (.iinc 3 1, 3) := by decide +kernel
theorem dX4_digest_65 : decode cX4_digest 65 = .ok (.goto (-27), 3) := by decide +kernel
theorem dX4_digest_68 : decode cX4_digest 68 = .ok (.iconst 0, 1) := by decide +kernel
theorem dX4_digest_69 : decode cX4_digest 69 = .ok (.istore_n 3, 1) := by decide +kernel
theorem dX4_digest_70 : decode cX4_digest 70 = .ok (.iload_n 3, 1) := by decide +kernel
theorem dX4_digest_71 : decode cX4_digest 71 = .ok (.bipush 8, 2) := by decide +kernel
theorem dX4_digest_73 : decode cX4_digest 73 = .ok (.if_icmp .ge 63, 3) := by decide +kernel
theorem dX4_digest_76 : decode cX4_digest 76 = .ok (.ldc2_w 145, 3) := by decide +kernel
theorem dX4_digest_79 : decode cX4_digest 79 = .ok (.ldc2_w 145, 3) := by decide +kernel
theorem dX4_digest_82 : decode cX4_digest 82 = .ok (.lload_n 1, 1) := by decide +kernel
theorem dX4_digest_83 : decode cX4_digest 83 = .ok (.lmul, 1) := by decide +kernel
theorem dX4_digest_84 : decode cX4_digest 84 = .ok (.aload_n 0, 1) := by decide +kernel
theorem dX4_digest_85 : decode cX4_digest 85 = .ok (.iload_n 3, 1) := by decide +kernel
theorem dX4_digest_86 : decode cX4_digest 86 = .ok (.invokevirtual 45, 3) := by decide +kernel
theorem dX4_digest_89 : decode cX4_digest 89 = .ok (.i2l, 1) := by decide +kernel
theorem dX4_digest_90 : decode cX4_digest 90 = .ok (.ladd, 1) := by decide +kernel
theorem dX4_digest_91 : decode cX4_digest 91 = .ok (.lmul, 1) := by decide +kernel
theorem dX4_digest_92 : decode cX4_digest 92 = .ok (.aload_n 0, 1) := by decide +kernel
theorem dX4_digest_93 : decode cX4_digest 93 = .ok (.iload_n 3, 1) := by decide +kernel
theorem dX4_digest_94 : decode cX4_digest 94 = .ok (.invokevirtual 45, 3) := by decide +kernel
theorem dX4_digest_97 : decode cX4_digest 97 = .ok (.i2l, 1) := by decide +kernel
theorem dX4_digest_98 : decode cX4_digest 98 = .ok (.ladd, 1) := by decide +kernel
theorem dX4_digest_99 : decode cX4_digest 99 = .ok (.lstore_n 1, 1) := by decide +kernel
theorem dX4_digest_100 : decode cX4_digest 100 = .ok (.iconst 0, 1) := by decide +kernel
theorem dX4_digest_101 : decode cX4_digest 101 = .ok (.istore 4, 2) := by decide +kernel
theorem dX4_digest_103 : decode cX4_digest 103 = .ok (.iload 4, 2) := by decide +kernel
theorem dX4_digest_105 : decode cX4_digest 105 = .ok (.iconst 3, 1) := by decide +kernel
theorem dX4_digest_106 : decode cX4_digest 106 = .ok (.if_icmp .ge 24, 3) := by decide +kernel
theorem dX4_digest_109 : decode cX4_digest 109 = .ok (.ldc2_w 145, 3) := by decide +kernel
theorem dX4_digest_112 : decode cX4_digest 112 = .ok (.lload_n 1, 1) := by decide +kernel
theorem dX4_digest_113 : decode cX4_digest 113 = .ok (.lmul, 1) := by decide +kernel
theorem dX4_digest_114 : decode cX4_digest 114 = .ok (.aload_n 0, 1) := by decide +kernel
theorem dX4_digest_115 : decode cX4_digest 115 = .ok (.iload_n 3, 1) := by decide +kernel
theorem dX4_digest_116 : decode cX4_digest 116 = .ok (.iload 4, 2) := by decide +kernel
theorem dX4_digest_118 : decode cX4_digest 118 = .ok (.invokevirtual 105, 3) := by decide +kernel
theorem dX4_digest_121 : decode cX4_digest 121 = .ok (.i2l, 1) := by decide +kernel
theorem dX4_digest_122 : decode cX4_digest 122 = .ok (.ladd, 1) := by decide +kernel
theorem dX4_digest_123 : decode cX4_digest 123 = .ok (.lstore_n 1, 1) := by decide +kernel
theorem dX4_digest_124 : decode cX4_digest 124 = .ok (.iinc 4 1, 3) := by decide +kernel
theorem dX4_digest_127 : decode cX4_digest 127 = .ok (.goto (-24), 3) := by decide +kernel
theorem dX4_digest_130 : decode cX4_digest 130 = .ok (.iinc 3 1, 3) := by decide +kernel
theorem dX4_digest_133 : decode cX4_digest 133 = .ok (.goto (-63), 3) := by decide +kernel
theorem dX4_digest_136 : decode cX4_digest 136 = .ok (.ldc2_w 145, 3) := by decide +kernel
theorem dX4_digest_139 : decode cX4_digest 139 = .ok (.lload_n 1, 1) := by decide +kernel
theorem dX4_digest_140 : decode cX4_digest 140 = .ok (.lmul, 1) := by decide +kernel
theorem dX4_digest_141 : decode cX4_digest 141 = .ok (.aload_n 0, 1) := by decide +kernel
theorem dX4_digest_142 : decode cX4_digest 142 = .ok (.invokevirtual 126, 3) := by decide +kernel
theorem dX4_digest_145 : decode cX4_digest 145 = .ok (.i2l, 1) := by decide +kernel
theorem dX4_digest_146 : decode cX4_digest 146 = .ok (.ladd, 1) := by decide +kernel
theorem dX4_digest_147 : decode cX4_digest 147 = .ok (.lstore_n 1, 1) := by decide +kernel
theorem dX4_digest_148 : decode cX4_digest 148 = .ok (.ldc2_w 145, 3) := by decide +kernel
theorem dX4_digest_151 : decode cX4_digest 151 = .ok (.ldc2_w 145, 3) := by decide +kernel
theorem dX4_digest_154 : decode cX4_digest 154 = .ok (.lload_n 1, 1) := by decide +kernel
theorem dX4_digest_155 : decode cX4_digest 155 = .ok (.lmul, 1) := by decide +kernel
theorem dX4_digest_156 : decode cX4_digest 156 = .ok (.aload_n 0, 1) := by decide +kernel
theorem dX4_digest_157 : decode cX4_digest 157 = .ok (.iconst 0, 1) := by decide +kernel
theorem dX4_digest_158 : decode cX4_digest 158 = .ok (.invokevirtual 130, 3) := by decide +kernel
theorem dX4_digest_161 : decode cX4_digest 161 = .ok (.i2l, 1) := by decide +kernel
theorem dX4_digest_162 : decode cX4_digest 162 = .ok (.ladd, 1) := by decide +kernel
theorem dX4_digest_163 : decode cX4_digest 163 = .ok (.lmul, 1) := by decide +kernel
theorem dX4_digest_164 : decode cX4_digest 164 = .ok (.aload_n 0, 1) := by decide +kernel
theorem dX4_digest_165 : decode cX4_digest 165 = .ok (.iconst 0, 1) := by decide +kernel
theorem dX4_digest_166 : decode cX4_digest 166 = .ok (.invokevirtual 130, 3) := by decide +kernel
theorem dX4_digest_169 : decode cX4_digest 169 = .ok (.i2l, 1) := by decide +kernel
theorem dX4_digest_170 : decode cX4_digest 170 = .ok (.ladd, 1) := by decide +kernel
theorem dX4_digest_171 : decode cX4_digest 171 = .ok (.lstore_n 1, 1) := by decide +kernel
theorem dX4_digest_172 : decode cX4_digest 172 = .ok (.ldc2_w 145, 3) := by decide +kernel
theorem dX4_digest_175 : decode cX4_digest 175 = .ok (.ldc2_w 145, 3) := by decide +kernel
theorem dX4_digest_178 : decode cX4_digest 178 = .ok (.lload_n 1, 1) := by decide +kernel
theorem dX4_digest_179 : decode cX4_digest 179 = .ok (.lmul, 1) := by decide +kernel
theorem dX4_digest_180 : decode cX4_digest 180 = .ok (.aload_n 0, 1) := by decide +kernel
theorem dX4_digest_181 : decode cX4_digest 181 = .ok (.sipush 1000, 3) := by decide +kernel
theorem dX4_digest_184 : decode cX4_digest 184 = .ok (.invokevirtual 130, 3) := by decide +kernel
theorem dX4_digest_187 : decode cX4_digest 187 = .ok (.i2l, 1) := by decide +kernel
theorem dX4_digest_188 : decode cX4_digest 188 = .ok (.ladd, 1) := by decide +kernel
theorem dX4_digest_189 : decode cX4_digest 189 = .ok (.lmul, 1) := by decide +kernel
theorem dX4_digest_190 : decode cX4_digest 190 = .ok (.aload_n 0, 1) := by decide +kernel
theorem dX4_digest_191 : decode cX4_digest 191 = .ok (.sipush 1000, 3) := by decide +kernel
theorem dX4_digest_194 : decode cX4_digest 194 = .ok (.invokevirtual 130, 3) := by decide +kernel
theorem dX4_digest_197 : decode cX4_digest 197 = .ok (.i2l, 1) := by decide +kernel
theorem dX4_digest_198 : decode cX4_digest 198 = .ok (.ladd, 1) := by decide +kernel
theorem dX4_digest_199 : decode cX4_digest 199 = .ok (.lstore_n 1, 1) := by decide +kernel
theorem dX4_digest_200 : decode cX4_digest 200 = .ok (.ldc2_w 145, 3) := by decide +kernel
theorem dX4_digest_203 : decode cX4_digest 203 = .ok (.ldc2_w 145, 3) := by decide +kernel
theorem dX4_digest_206 : decode cX4_digest 206 = .ok (.lload_n 1, 1) := by decide +kernel
theorem dX4_digest_207 : decode cX4_digest 207 = .ok (.lmul, 1) := by decide +kernel
theorem dX4_digest_208 : decode cX4_digest 208 = .ok (.aload_n 0, 1) := by decide +kernel
theorem dX4_digest_209 : decode cX4_digest 209 = .ok (.ldc 147, 2) := by decide +kernel
theorem dX4_digest_211 : decode cX4_digest 211 = .ok (.invokevirtual 130, 3) := by decide +kernel
theorem dX4_digest_214 : decode cX4_digest 214 = .ok (.i2l, 1) := by decide +kernel
theorem dX4_digest_215 : decode cX4_digest 215 = .ok (.ladd, 1) := by decide +kernel
theorem dX4_digest_216 : decode cX4_digest 216 = .ok (.lmul, 1) := by decide +kernel
theorem dX4_digest_217 : decode cX4_digest 217 = .ok (.aload_n 0, 1) := by decide +kernel
theorem dX4_digest_218 : decode cX4_digest 218 = .ok (.ldc 147, 2) := by decide +kernel
theorem dX4_digest_220 : decode cX4_digest 220 = .ok (.invokevirtual 130, 3) := by decide +kernel
theorem dX4_digest_223 : decode cX4_digest 223 = .ok (.i2l, 1) := by decide +kernel
theorem dX4_digest_224 : decode cX4_digest 224 = .ok (.ladd, 1) := by decide +kernel
theorem dX4_digest_225 : decode cX4_digest 225 = .ok (.lstore_n 1, 1) := by decide +kernel
theorem dX4_digest_226 : decode cX4_digest 226 = .ok (.iconst 0, 1) := by decide +kernel
theorem dX4_digest_227 : decode cX4_digest 227 = .ok (.istore_n 3, 1) := by decide +kernel
theorem dX4_digest_228 : decode cX4_digest 228 = .ok (.iload_n 3, 1) := by decide +kernel
theorem dX4_digest_229 : decode cX4_digest 229 = .ok (.bipush 8, 2) := by decide +kernel
theorem dX4_digest_231 : decode cX4_digest 231 = .ok (.if_icmp .ge 24, 3) := by decide +kernel
theorem dX4_digest_234 : decode cX4_digest 234 = .ok (.ldc2_w 145, 3) := by decide +kernel
theorem dX4_digest_237 : decode cX4_digest 237 = .ok (.lload_n 1, 1) := by decide +kernel
theorem dX4_digest_238 : decode cX4_digest 238 = .ok (.lmul, 1) := by decide +kernel
theorem dX4_digest_239 : decode cX4_digest 239 = .ok (.aload_n 0, 1) := by decide +kernel
theorem dX4_digest_240 : decode cX4_digest 240 = .ok (.iload_n 3, 1) := by decide +kernel
theorem dX4_digest_241 : decode cX4_digest 241 = .ok (.iconst 5, 1) := by decide +kernel
theorem dX4_digest_242 : decode cX4_digest 242 = .ok (.ixor, 1) := by decide +kernel
theorem dX4_digest_243 : decode cX4_digest 243 = .ok (.invokevirtual 45, 3) := by decide +kernel
theorem dX4_digest_246 : decode cX4_digest 246 = .ok (.i2l, 1) := by decide +kernel
theorem dX4_digest_247 : decode cX4_digest 247 = .ok (.ladd, 1) := by decide +kernel
theorem dX4_digest_248 : decode cX4_digest 248 = .ok (.lstore_n 1, 1) := by decide +kernel
theorem dX4_digest_249 : decode cX4_digest 249 = .ok (.iinc 3 1, 3) := by decide +kernel
theorem dX4_digest_252 : decode cX4_digest 252 = .ok (.goto (-24), 3) := by decide +kernel
theorem dX4_digest_255 : decode cX4_digest 255 = .ok (.ldc2_w 145, 3) := by decide +kernel
theorem dX4_digest_258 : decode cX4_digest 258 = .ok (.lload_n 1, 1) := by decide +kernel
theorem dX4_digest_259 : decode cX4_digest 259 = .ok (.lmul, 1) := by decide +kernel
theorem dX4_digest_260 : decode cX4_digest 260 = .ok (.aload_n 0, 1) := by decide +kernel
theorem dX4_digest_261 : decode cX4_digest 261 = .ok (.invokevirtual 136, 3) := by decide +kernel
theorem dX4_digest_264 : decode cX4_digest 264 = .ok (.i2l, 1) := by decide +kernel
theorem dX4_digest_265 : decode cX4_digest 265 = .ok (.ladd, 1) := by decide +kernel
theorem dX4_digest_266 : decode cX4_digest 266 = .ok (.lstore_n 1, 1) := by decide +kernel
theorem dX4_digest_267 : decode cX4_digest 267 = .ok (.ldc2_w 145, 3) := by decide +kernel
theorem dX4_digest_270 : decode cX4_digest 270 = .ok (.lload_n 1, 1) := by decide +kernel
theorem dX4_digest_271 : decode cX4_digest 271 = .ok (.lmul, 1) := by decide +kernel
theorem dX4_digest_272 : decode cX4_digest 272 = .ok (.aload_n 0, 1) := by decide +kernel
theorem dX4_digest_273 : decode cX4_digest 273 = .ok (.invokevirtual 139, 3) := by decide +kernel
theorem dX4_digest_276 : decode cX4_digest 276 = .ok (.invokestatic 148, 3) := by decide +kernel
theorem dX4_digest_279 : decode cX4_digest 279 = .ok (.ladd, 1) := by decide +kernel
theorem dX4_digest_280 : decode cX4_digest 280 = .ok (.lstore_n 1, 1) := by decide +kernel
theorem dX4_digest_281 : decode cX4_digest 281 = .ok (.ldc2_w 145, 3) := by decide +kernel
theorem dX4_digest_284 : decode cX4_digest 284 = .ok (.ldc2_w 145, 3) := by decide +kernel
theorem dX4_digest_287 : decode cX4_digest 287 = .ok (.lload_n 1, 1) := by decide +kernel
theorem dX4_digest_288 : decode cX4_digest 288 = .ok (.lmul, 1) := by decide +kernel
theorem dX4_digest_289 : decode cX4_digest 289 = .ok (.aload_n 0, 1) := by decide +kernel
theorem dX4_digest_290 : decode cX4_digest 290 = .ok (.getfield 19, 3) := by decide +kernel
theorem dX4_digest_293 : decode cX4_digest 293 = .ok (.iconst 0, 1) := by decide +kernel
theorem dX4_digest_294 : decode cX4_digest 294 = .ok (.baload, 1) := by decide +kernel
theorem dX4_digest_295 : decode cX4_digest 295 = .ok (.ifCond .eq 7, 3) := by decide +kernel
theorem dX4_digest_298 : decode cX4_digest 298 = .ok (.iconst 1, 1) := by decide +kernel
theorem dX4_digest_299 : decode cX4_digest 299 = .ok (.goto 4, 3) := by decide +kernel
theorem dX4_digest_302 : decode cX4_digest 302 = .ok (.iconst 0, 1) := by decide +kernel
theorem dX4_digest_303 : decode cX4_digest 303 = .ok (.i2l, 1) := by decide +kernel
theorem dX4_digest_304 : decode cX4_digest 304 = .ok (.ladd, 1) := by decide +kernel
theorem dX4_digest_305 : decode cX4_digest 305 = .ok (.lmul, 1) := by decide +kernel
theorem dX4_digest_306 : decode cX4_digest 306 = .ok (.aload_n 0, 1) := by decide +kernel
theorem dX4_digest_307 : decode cX4_digest 307 = .ok (.getfield 19, 3) := by decide +kernel
theorem dX4_digest_310 : decode cX4_digest 310 = .ok (.iconst 1, 1) := by decide +kernel
theorem dX4_digest_311 : decode cX4_digest 311 = .ok (.baload, 1) := by decide +kernel
theorem dX4_digest_312 : decode cX4_digest 312 = .ok (.ifCond .eq 7, 3) := by decide +kernel
theorem dX4_digest_315 : decode cX4_digest 315 = .ok (.iconst 1, 1) := by decide +kernel
theorem dX4_digest_316 : decode cX4_digest 316 = .ok (.goto 4, 3) := by decide +kernel
theorem dX4_digest_319 : decode cX4_digest 319 = .ok (.iconst 0, 1) := by decide +kernel
theorem dX4_digest_320 : decode cX4_digest 320 = .ok (.i2l, 1) := by decide +kernel
theorem dX4_digest_321 : decode cX4_digest 321 = .ok (.ladd, 1) := by decide +kernel
theorem dX4_digest_322 : decode cX4_digest 322 = .ok (.lstore_n 1, 1) := by decide +kernel
theorem dX4_digest_323 : decode cX4_digest 323 = .ok (.ldc2_w 145, 3) := by decide +kernel
theorem dX4_digest_326 : decode cX4_digest 326 = .ok (.lload_n 1, 1) := by decide +kernel
theorem dX4_digest_327 : decode cX4_digest 327 = .ok (.lmul, 1) := by decide +kernel
theorem dX4_digest_328 : decode cX4_digest 328 = .ok (.aload_n 0, 1) := by decide +kernel
theorem dX4_digest_329 : decode cX4_digest 329 = .ok (.getfield 74, 3) := by decide +kernel
theorem dX4_digest_332 : decode cX4_digest 332 = .ok (.i2l, 1) := by decide +kernel
theorem dX4_digest_333 : decode cX4_digest 333 = .ok (.ladd, 1) := by decide +kernel
theorem dX4_digest_334 : decode cX4_digest 334 = .ok (.lstore_n 1, 1) := by decide +kernel
theorem dX4_digest_335 : decode cX4_digest 335 = .ok (.iconst 0, 1) := by decide +kernel
theorem dX4_digest_336 : decode cX4_digest 336 = .ok (.istore_n 3, 1) := by decide +kernel
theorem dX4_digest_337 : decode cX4_digest 337 = .ok (.iload_n 3, 1) := by decide +kernel
theorem dX4_digest_338 : decode cX4_digest 338 = .ok (.aload_n 0, 1) := by decide +kernel
theorem dX4_digest_339 : decode cX4_digest 339 = .ok (.getfield 74, 3) := by decide +kernel
theorem dX4_digest_342 : decode cX4_digest 342 = .ok (.if_icmp .ge 23, 3) := by decide +kernel
theorem dX4_digest_345 : decode cX4_digest 345 = .ok (.ldc2_w 145, 3) := by decide +kernel
theorem dX4_digest_348 : decode cX4_digest 348 = .ok (.lload_n 1, 1) := by decide +kernel
theorem dX4_digest_349 : decode cX4_digest 349 = .ok (.lmul, 1) := by decide +kernel
theorem dX4_digest_350 : decode cX4_digest 350 = .ok (.aload_n 0, 1) := by decide +kernel
theorem dX4_digest_351 : decode cX4_digest 351 = .ok (.getfield 23, 3) := by decide +kernel
theorem dX4_digest_354 : decode cX4_digest 354 = .ok (.iload_n 3, 1) := by decide +kernel
theorem dX4_digest_355 : decode cX4_digest 355 = .ok (.iaload, 1) := by decide +kernel
theorem dX4_digest_356 : decode cX4_digest 356 = .ok (.i2l, 1) := by decide +kernel
theorem dX4_digest_357 : decode cX4_digest 357 = .ok (.ladd, 1) := by decide +kernel
theorem dX4_digest_358 : decode cX4_digest 358 = .ok (.lstore_n 1, 1) := by decide +kernel
theorem dX4_digest_359 : decode cX4_digest 359 = .ok (.iinc 3 1, 3) := by decide +kernel
theorem dX4_digest_362 : decode cX4_digest 362 = .ok (.goto (-25), 3) := by decide +kernel
theorem dX4_digest_365 : decode cX4_digest 365 = .ok (.lload_n 1, 1) := by decide +kernel
theorem dX4_digest_366 : decode cX4_digest 366 = .ok (.lreturn, 1) := by decide +kernel
theorem dJxe99ae_isNaN_b9ae7_0 : decode cJxe99ae_isNaN_b9ae7 0 = .ok (.dload_n 0, 1) := by decide +kernel
theorem dJxe99ae_isNaN_b9ae7_1 : decode cJxe99ae_isNaN_b9ae7 1 = .ok (.dload_n 0, 1) := by decide +kernel
theorem dJxe99ae_isNaN_b9ae7_2 : decode cJxe99ae_isNaN_b9ae7 2 = .ok (.dcmp .l, 1) := by decide +kernel
theorem dJxe99ae_isNaN_b9ae7_3 : decode cJxe99ae_isNaN_b9ae7 3 = .ok (.ifCond .eq 7, 3) := by decide +kernel
theorem dJxe99ae_isNaN_b9ae7_6 : decode cJxe99ae_isNaN_b9ae7 6 = .ok (.iconst 1, 1) := by decide +kernel
theorem dJxe99ae_isNaN_b9ae7_7 : decode cJxe99ae_isNaN_b9ae7 7 = .ok (.goto 4, 3) := by decide +kernel
theorem dJxe99ae_isNaN_b9ae7_10 : decode cJxe99ae_isNaN_b9ae7 10 = .ok (.iconst 0, 1) := by decide +kernel
theorem dJxe99ae_isNaN_b9ae7_11 : decode cJxe99ae_isNaN_b9ae7 11 = .ok (.ireturn, 1) := by decide +kernel
set_option maxRecDepth 20000 in
theorem ggJxe99ae_doubleToLongBits_ccdee_Jxe99ae_isNaN_b9ae7 : GoodIn wsJxe99ae_doubleToLongBits_ccdee wsJxe99ae_isNaN_b9ae7 := goodIn_r _ [9] (by decide +kernel) (by decide +kernel)
set_option maxRecDepth 20000 in
theorem gJxe99ae_doubleToLongBits_ccdee_Jxe99ae_isNaN_b9ae7 : GoodIn wsJxe99ae_doubleToLongBits_ccdee (va_wsS RJxe99ae 122 yJxe99ae_isNaN_b9ae7 wsJxe99ae_isNaN_b9ae7) := goodIn_app (goodIn_of _ (by decide +kernel)) ggJxe99ae_doubleToLongBits_ccdee_Jxe99ae_isNaN_b9ae7
theorem dJxe99ae_doubleToLongBits_ccdee_0 : decode cJxe99ae_doubleToLongBits_ccdee 0 = .ok (.dload_n 0, 1) := by decide +kernel
theorem dJxe99ae_doubleToLongBits_ccdee_1 : decode cJxe99ae_doubleToLongBits_ccdee 1 = .ok (.invokestatic 122, 3) := by decide +kernel
theorem dJxe99ae_doubleToLongBits_ccdee_4 : decode cJxe99ae_doubleToLongBits_ccdee 4 = .ok (.ifCond .ne 8, 3) := by decide +kernel
theorem dJxe99ae_doubleToLongBits_ccdee_7 : decode cJxe99ae_doubleToLongBits_ccdee 7 = .ok (.dload_n 0, 1) := by decide +kernel
theorem dJxe99ae_doubleToLongBits_ccdee_8 : decode cJxe99ae_doubleToLongBits_ccdee 8 = .ok (.invokestatic 134, 3) := by decide +kernel
theorem dJxe99ae_doubleToLongBits_ccdee_11 : decode cJxe99ae_doubleToLongBits_ccdee 11 = .ok (.lreturn, 1) := by decide +kernel
theorem dJxe99ae_doubleToLongBits_ccdee_12 : decode cJxe99ae_doubleToLongBits_ccdee 12 = .ok (.ldc2_w 137, 3) := by decide +kernel
theorem dJxe99ae_doubleToLongBits_ccdee_15 : decode cJxe99ae_doubleToLongBits_ccdee 15 = .ok (.lreturn, 1) := by decide +kernel
theorem dJ6_bitCount_0f7a4_0 : decode cJ6_bitCount_0f7a4 0 = .ok (.iload_n 0, 1) := by decide +kernel
theorem dJ6_bitCount_0f7a4_1 : decode cJ6_bitCount_0f7a4 1 = .ok (.iload_n 0, 1) := by decide +kernel
theorem dJ6_bitCount_0f7a4_2 : decode cJ6_bitCount_0f7a4 2 = .ok (.iconst 1, 1) := by decide +kernel
theorem dJ6_bitCount_0f7a4_3 : decode cJ6_bitCount_0f7a4 3 = .ok (.iushr, 1) := by decide +kernel
theorem dJ6_bitCount_0f7a4_4 : decode cJ6_bitCount_0f7a4 4 = .ok (.ldc_w 265, 3) := by decide +kernel
theorem dJ6_bitCount_0f7a4_7 : decode cJ6_bitCount_0f7a4 7 = .ok (.iand, 1) := by decide +kernel
theorem dJ6_bitCount_0f7a4_8 : decode cJ6_bitCount_0f7a4 8 = .ok (.isub, 1) := by decide +kernel
theorem dJ6_bitCount_0f7a4_9 : decode cJ6_bitCount_0f7a4 9 = .ok (.istore_n 0, 1) := by decide +kernel
theorem dJ6_bitCount_0f7a4_10 : decode cJ6_bitCount_0f7a4 10 = .ok (.iload_n 0, 1) := by decide +kernel
theorem dJ6_bitCount_0f7a4_11 : decode cJ6_bitCount_0f7a4 11 = .ok (.ldc_w 266, 3) := by decide +kernel
theorem dJ6_bitCount_0f7a4_14 : decode cJ6_bitCount_0f7a4 14 = .ok (.iand, 1) := by decide +kernel
theorem dJ6_bitCount_0f7a4_15 : decode cJ6_bitCount_0f7a4 15 = .ok (.iload_n 0, 1) := by decide +kernel
theorem dJ6_bitCount_0f7a4_16 : decode cJ6_bitCount_0f7a4 16 = .ok (.iconst 2, 1) := by decide +kernel
theorem dJ6_bitCount_0f7a4_17 : decode cJ6_bitCount_0f7a4 17 = .ok (.iushr, 1) := by decide +kernel
theorem dJ6_bitCount_0f7a4_18 : decode cJ6_bitCount_0f7a4 18 = .ok (.ldc_w 266, 3) := by decide +kernel
theorem dJ6_bitCount_0f7a4_21 : decode cJ6_bitCount_0f7a4 21 = .ok (.iand, 1) := by decide +kernel
theorem dJ6_bitCount_0f7a4_22 : decode cJ6_bitCount_0f7a4 22 = .ok (.iadd, 1) := by decide +kernel
theorem dJ6_bitCount_0f7a4_23 : decode cJ6_bitCount_0f7a4 23 = .ok (.istore_n 0, 1) := by decide +kernel
theorem dJ6_bitCount_0f7a4_24 : decode cJ6_bitCount_0f7a4 24 = .ok (.iload_n 0, 1) := by decide +kernel
theorem dJ6_bitCount_0f7a4_25 : decode cJ6_bitCount_0f7a4 25 = .ok (.iload_n 0, 1) := by decide +kernel
theorem dJ6_bitCount_0f7a4_26 : decode cJ6_bitCount_0f7a4 26 = .ok (.iconst 4, 1) := by decide +kernel
theorem dJ6_bitCount_0f7a4_27 : decode cJ6_bitCount_0f7a4 27 = .ok (.iushr, 1) := by decide +kernel
theorem dJ6_bitCount_0f7a4_28 : decode cJ6_bitCount_0f7a4 28 = .ok (.iadd, 1) := by decide +kernel
theorem dJ6_bitCount_0f7a4_29 : decode cJ6_bitCount_0f7a4 29 = .ok (.ldc_w 267, 3) := by decide +kernel
theorem dJ6_bitCount_0f7a4_32 : decode cJ6_bitCount_0f7a4 32 = .ok (.iand, 1) := by decide +kernel
theorem dJ6_bitCount_0f7a4_33 : decode cJ6_bitCount_0f7a4 33 = .ok (.istore_n 0, 1) := by decide +kernel
theorem dJ6_bitCount_0f7a4_34 : decode cJ6_bitCount_0f7a4 34 = .ok (.iload_n 0, 1) := by decide +kernel
theorem dJ6_bitCount_0f7a4_35 : decode cJ6_bitCount_0f7a4 35 = .ok (.iload_n 0, 1) := by decide +kernel
theorem dJ6_bitCount_0f7a4_36 : decode cJ6_bitCount_0f7a4 36 = .ok (.bipush 8, 2) := by decide +kernel
theorem dJ6_bitCount_0f7a4_38 : decode cJ6_bitCount_0f7a4 38 = .ok (.iushr, 1) := by decide +kernel
theorem dJ6_bitCount_0f7a4_39 : decode cJ6_bitCount_0f7a4 39 = .ok (.iadd, 1) := by decide +kernel
theorem dJ6_bitCount_0f7a4_40 : decode cJ6_bitCount_0f7a4 40 = .ok (.istore_n 0, 1) := by decide +kernel
theorem dJ6_bitCount_0f7a4_41 : decode cJ6_bitCount_0f7a4 41 = .ok (.iload_n 0, 1) := by decide +kernel
theorem dJ6_bitCount_0f7a4_42 : decode cJ6_bitCount_0f7a4 42 = .ok (.iload_n 0, 1) := by decide +kernel
theorem dJ6_bitCount_0f7a4_43 : decode cJ6_bitCount_0f7a4 43 = .ok (.bipush 16, 2) := by decide +kernel
theorem dJ6_bitCount_0f7a4_45 : decode cJ6_bitCount_0f7a4 45 = .ok (.iushr, 1) := by decide +kernel
theorem dJ6_bitCount_0f7a4_46 : decode cJ6_bitCount_0f7a4 46 = .ok (.iadd, 1) := by decide +kernel
theorem dJ6_bitCount_0f7a4_47 : decode cJ6_bitCount_0f7a4 47 = .ok (.istore_n 0, 1) := by decide +kernel
theorem dJ6_bitCount_0f7a4_48 : decode cJ6_bitCount_0f7a4 48 = .ok (.iload_n 0, 1) := by decide +kernel
theorem dJ6_bitCount_0f7a4_49 : decode cJ6_bitCount_0f7a4 49 = .ok (.bipush 63, 2) := by decide +kernel
theorem dJ6_bitCount_0f7a4_51 : decode cJ6_bitCount_0f7a4 51 = .ok (.iand, 1) := by decide +kernel
theorem dJ6_bitCount_0f7a4_52 : decode cJ6_bitCount_0f7a4 52 = .ok (.ireturn, 1) := by decide +kernel
theorem dJ9_floorDiv_7cf53_0 : decode cJ9_floorDiv_7cf53 0 = .ok (.iload_n 0, 1) := by decide +kernel
theorem dJ9_floorDiv_7cf53_1 : decode cJ9_floorDiv_7cf53 1 = .ok (.iload_n 1, 1) := by decide +kernel
theorem dJ9_floorDiv_7cf53_2 : decode cJ9_floorDiv_7cf53 2 = .ok (.idiv, 1) := by decide +kernel
theorem dJ9_floorDiv_7cf53_3 : decode cJ9_floorDiv_7cf53 3 = .ok (.istore_n 2, 1) := by decide +kernel
theorem dJ9_floorDiv_7cf53_4 : decode cJ9_floorDiv_7cf53 4 = .ok (.iload_n 0, 1) := by decide +kernel
theorem dJ9_floorDiv_7cf53_5 : decode cJ9_floorDiv_7cf53 5 = .ok (.iload_n 1, 1) := by decide +kernel
theorem dJ9_floorDiv_7cf53_6 : decode cJ9_floorDiv_7cf53 6 = .ok (.ixor, 1) := by decide +kernel
theorem dJ9_floorDiv_7cf53_7 : decode cJ9_floorDiv_7cf53 7 = .ok (.ifCond .ge 14, 3) := by decide +kernel
theorem dJ9_floorDiv_7cf53_10 : decode cJ9_floorDiv_7cf53 10 = .ok (.iload_n 2, 1) := by decide +kernel
theorem dJ9_floorDiv_7cf53_11 : decode cJ9_floorDiv_7cf53 11 = .ok (.iload_n 1, 1) := by decide +kernel
theorem dJ9_floorDiv_7cf53_12 : decode cJ9_floorDiv_7cf53 12 = .ok (.imul, 1) := by decide +kernel
theorem dJ9_floorDiv_7cf53_13 : decode cJ9_floorDiv_7cf53 13 = .ok (.iload_n 0, 1) := by decide +kernel
theorem dJ9_floorDiv_7cf53_14 : decode cJ9_floorDiv_7cf53 14 = .ok (.if_icmp .eq 7, 3) := by decide +kernel
theorem dJ9_floorDiv_7cf53_17 : decode cJ9_floorDiv_7cf53 17 = .ok (.iload_n 2, 1) := by decide +kernel
theorem dJ9_floorDiv_7cf53_18 : decode cJ9_floorDiv_7cf53 18 = .ok (.iconst 1, 1) := by decide +kernel
theorem dJ9_floorDiv_7cf53_19 : decode cJ9_floorDiv_7cf53 19 = .ok (.isub, 1) := by decide +kernel
theorem dJ9_floorDiv_7cf53_20 : decode cJ9_floorDiv_7cf53 20 = .ok (.ireturn, 1) := by decide +kernel
theorem dJ9_floorDiv_7cf53_21 : decode cJ9_floorDiv_7cf53 21 = .ok (.iload_n 2, 1) := by decide +kernel
theorem dJ9_floorDiv_7cf53_22 : decode cJ9_floorDiv_7cf53 22 = .ok (.ireturn, 1) := by decide +kernel
theorem dJ9_abs_0f7a4_0 : decode cJ9_abs_0f7a4 0 = .ok (.iload_n 0, 1) := by decide +kernel
theorem dJ9_abs_0f7a4_1 : decode cJ9_abs_0f7a4 1 = .ok (.ifCond .ge 8, 3) := by decide +kernel
theorem dJ9_abs_0f7a4_4 : decode cJ9_abs_0f7a4 4 = .ok (.iload_n 0, 1) := by decide +kernel
theorem dJ9_abs_0f7a4_5 : decode cJ9_abs_0f7a4 5 = .ok (.ineg, 1) := by decide +kernel
theorem dJ9_abs_0f7a4_6 : decode cJ9_abs_0f7a4 6 = .ok (.goto 4, 3) := by decide +kernel
theorem dJ9_abs_0f7a4_9 : decode cJ9_abs_0f7a4 9 = .ok (.iload_n 0, 1) := by decide +kernel
theorem dJ9_abs_0f7a4_10 : decode cJ9_abs_0f7a4 10 = .ok (.ireturn, 1) := by decide +kernel
theorem dJ9_max_7cf53_0 : decode cJ9_max_7cf53 0 = .ok (.iload_n 0, 1) := by decide +kernel
theorem dJ9_max_7cf53_1 : decode cJ9_max_7cf53 1 = .ok (.iload_n 1, 1) := by decide +kernel
theorem dJ9_max_7cf53_2 : decode cJ9_max_7cf53 2 = .ok (.if_icmp .lt 7, 3) := by decide +kernel
theorem dJ9_max_7cf53_5 : decode cJ9_max_7cf53 5 = .ok (.iload_n 0, 1) := by decide +kernel
theorem dJ9_max_7cf53_6 : decode cJ9_max_7cf53 6 = .ok (.goto 4, 3) := by decide +kernel
theorem dJ9_max_7cf53_9 : decode cJ9_max_7cf53 9 = .ok (.iload_n 1, 1) := by decide +kernel
theorem dJ9_max_7cf53_10 : decode cJ9_max_7cf53 10 = .ok (.ireturn, 1) := by decide +kernel
theorem dJ9_min_7cf53_0 : decode cJ9_min_7cf53 0 = .ok (.iload_n 0, 1) := by decide +kernel
theorem dJ9_min_7cf53_1 : decode cJ9_min_7cf53 1 = .ok (.iload_n 1, 1) := by decide +kernel
theorem dJ9_min_7cf53_2 : decode cJ9_min_7cf53 2 = .ok (.if_icmp .gt 7, 3) := by decide +kernel
theorem dJ9_min_7cf53_5 : decode cJ9_min_7cf53 5 = .ok (.iload_n 0, 1) := by decide +kernel
theorem dJ9_min_7cf53_6 : decode cJ9_min_7cf53 6 = .ok (.goto 4, 3) := by decide +kernel
theorem dJ9_min_7cf53_9 : decode cJ9_min_7cf53 9 = .ok (.iload_n 1, 1) := by decide +kernel
theorem dJ9_min_7cf53_10 : decode cJ9_min_7cf53 10 = .ok (.ireturn, 1) := by decide +kernel

set_option maxRecDepth 20000 in
theorem ggX3_init_X0_init : GoodIn wsX3_init wsX0_init := goodIn_r _ [21, 22, 2, 3, 18, 23, 24, 25, 26, 40, 41, 42, 43] (by decide +kernel) (by decide +kernel)
set_option maxRecDepth 20000 in
theorem gX3_init_X0_init_n11 : GoodIn wsX3_init (wsX0_init) := ggX3_init_X0_init
set_option maxRecDepth 20000 in
theorem ggX3_init_X1_init : GoodIn wsX3_init wsX1_init := goodIn_r _ [28, 29, 2, 3, 30, 31, 32, 33, 5, 6, 20, 21, 22, 18, 23, 24, 25, 26, 50, 51, 52, 40, 41, 42, 43] (by decide +kernel) (by decide +kernel)
set_option maxRecDepth 20000 in
theorem gX3_init_X1_init_n26 : GoodIn wsX3_init (wsX1_init) := ggX3_init_X1_init
set_option maxRecDepth 20000 in
theorem ggX3_init_X2_init : GoodIn wsX3_init wsX2_init := goodIn_r _ [35, 36, 2, 3, 37, 38, 39, 53, 54] (by decide +kernel) (by decide +kernel)
set_option maxRecDepth 20000 in
theorem gX3_init_X2_init_n33 : GoodIn wsX3_init (wsX2_init) := ggX3_init_X2_init
theorem dX3_init_0 : decode cX3_init 0 = .ok (.aload_n 0, 1) := by decide +kernel
theorem dX3_init_1 : decode cX3_init 1 = .ok (.invokespecial 3, 3) := by decide +kernel
theorem dX3_init_4 : decode cX3_init 4 = .ok (.aload_n 0, 1) := by decide +kernel
theorem dX3_init_5 : decode cX3_init 5 = .ok (.new 9, 3) := by decide +kernel
theorem dX3_init_8 : decode cX3_init 8 = .ok (.dup, 1) := by decide +kernel
theorem dX3_init_9 : decode cX3_init 9 = .ok (.invokespecial 11, 3) := by decide +kernel
theorem dX3_init_12 : decode cX3_init 12 = .ok (.putfield 12, 3) := by decide +kernel
theorem dX3_init_15 : decode cX3_init 15 = .ok (.aload_n 0, 1) := by decide +kernel
theorem dX3_init_16 : decode cX3_init 16 = .ok (.iconst 2, 1) := by decide +kernel
theorem dX3_init_17 : decode cX3_init 17 = .ok (.anewarray 9, 3) := by decide +kernel
theorem dX3_init_20 : decode cX3_init 20 = .ok (.putfield 16, 3) := by decide +kernel
theorem dX3_init_23 : decode cX3_init 23 = .ok (.aload_n 0, 1) := by decide +kernel
theorem dX3_init_24 : decode cX3_init 24 = .ok (.iconst 0, 1) := by decide +kernel
theorem dX3_init_25 : decode cX3_init 25 = .ok (.putfield 20, 3) := by decide +kernel
theorem dX3_init_28 : decode cX3_init 28 = .ok (.aload_n 0, 1) := by decide +kernel
theorem dX3_init_29 : decode cX3_init 29 = .ok (.new 24, 3) := by decide +kernel
theorem dX3_init_32 : decode cX3_init 32 = .ok (.dup, 1) := by decide +kernel
theorem dX3_init_33 : decode cX3_init 33 = .ok (.invokespecial 26, 3) := by decide +kernel
theorem dX3_init_36 : decode cX3_init 36 = .ok (.putfield 27, 3) := by decide +kernel
theorem dX3_init_39 : decode cX3_init 39 = .ok (.aload_n 0, 1) := by decide +kernel
theorem dX3_init_40 : decode cX3_init 40 = .ok (.new 31, 3) := by decide +kernel
theorem dX3_init_43 : decode cX3_init 43 = .ok (.dup, 1) := by decide +kernel
theorem dX3_init_44 : decode cX3_init 44 = .ok (.invokespecial 33, 3) := by decide +kernel
theorem dX3_init_47 : decode cX3_init 47 = .ok (.putfield 34, 3) := by decide +kernel
theorem dX3_init_50 : decode cX3_init 50 = .ok (.aload_n 0, 1) := by decide +kernel
theorem dX3_init_51 : decode cX3_init 51 = .ok (.bipush 8, 2) := by decide +kernel
theorem dX3_init_53 : decode cX3_init 53 = .ok (.newarray .int, 2) := by decide +kernel
theorem dX3_init_55 : decode cX3_init 55 = .ok (.putfield 38, 3) := by decide +kernel
theorem dX3_init_58 : decode cX3_init 58 = .ok (.iconst 0, 1) := by decide +kernel
theorem dX3_init_59 : decode cX3_init 59 = .ok (.istore_n 1, 1) := by decide +kernel
theorem dX3_init_60 : decode cX3_init 60 = .ok (.iload_n 1, 1) := by decide +kernel
theorem dX3_init_61 : decode cX3_init 61 = .ok (.iconst 2, 1) := by decide +kernel
theorem dX3_init_62 : decode cX3_init 62 = .ok (.if_icmp .ge 22, 3) := by decide +kernel
theorem dX3_init_65 : decode cX3_init 65 = .ok (.aload_n 0, 1) := by decide +kernel
theorem dX3_init_66 : decode cX3_init 66 = .ok (.getfield 16, 3) := by decide +kernel
theorem dX3_init_69 : decode cX3_init 69 = .ok (.iload_n 1, 1) := by decide +kernel
theorem dX3_init_70 : decode cX3_init 70 = .ok (.new 9, 3) := by decide +kernel
theorem dX3_init_73 : decode cX3_init 73 = .ok (.dup, 1) := by decide +kernel
theorem dX3_init_74 : decode cX3_init 74 = .ok (.invokespecial 11, 3) := by decide +kernel
theorem dX3_init_77 : decode cX3_init 77 = .ok (.aastore, 1) := by decide +kernel
theorem dX3_init_78 : decode cX3_init 78 = .ok (.iinc 1 1, 3) := by decide +kernel
theorem dX3_init_81 : decode cX3_init 81 = .ok (.goto (-21), 3) := by decide +kernel
theorem dX3_init_84 : decode cX3_init 84 = .ok (.return_, 1) := by decide +kernel
set_option maxRecDepth 20000 in
theorem ggX3_set_X3_isNoPlace : GoodIn wsX3_set wsX3_isNoPlace := goodIn_r _ [10, 11, 12, 9, 13] (by decide +kernel) (by decide +kernel)
set_option maxRecDepth 20000 in
theorem gX3_set_X3_isNoPlace : GoodIn wsX3_set (va_wsS RX3 42 yX3_isNoPlace wsX3_isNoPlace) := goodIn_app (goodIn_of _ (by decide +kernel)) ggX3_set_X3_isNoPlace
set_option maxRecDepth 20000 in
theorem ggX3_set_X3_isOutside : GoodIn wsX3_set wsX3_isOutside := goodIn_r _ [13] (by decide +kernel) (by decide +kernel)
set_option maxRecDepth 20000 in
theorem gX3_set_X3_isOutside : GoodIn wsX3_set (va_wsS RX3 53 yX3_isOutside wsX3_isOutside) := goodIn_app (goodIn_of _ (by decide +kernel)) ggX3_set_X3_isOutside
set_option maxRecDepth 20000 in
theorem ggX3_set_X1_push : GoodIn wsX3_set wsX1_push := goodIn_r _ [17, 18, 19, 20, 21, 22, 23, 24, 25, 26, 27, 28, 29, 30, 31, 32, 33, 34, 35, 36, 47, 48, 49, 43, 44, 45, 46] (by decide +kernel) (by decide +kernel)
set_option maxRecDepth 20000 in
theorem gX3_set_X1_push_n62 : GoodIn wsX3_set (wsX1_push) := ggX3_set_X1_push
theorem dX3_set_0 : decode cX3_set 0 = .ok (.iload_n 1, 1) := by decide +kernel
theorem dX3_set_1 : decode cX3_set 1 = .ok (.invokestatic 42, 3) := by decide +kernel
theorem dX3_set_4 : decode cX3_set 4 = .ok (.ifCond .eq 13, 3) := by decide +kernel
theorem dX3_set_7 : decode cX3_set 7 = .ok (.new 46, 3) := by decide +kernel
theorem dX3_set_10 : decode cX3_set 10 = .ok (.dup, 1) := by decide +kernel
theorem dX3_set_11 : decode cX3_set 11 = .ok (.ldc 48, 2) := by decide +kernel
theorem dX3_set_13 : decode cX3_set 13 = .ok (.invokespecial 50, 3) := by decide +kernel
theorem dX3_set_16 : decode cX3_set 16 = .ok (.athrow, 1) := by decide +kernel
theorem dX3_set_17 : decode cX3_set 17 = .ok (.iload_n 2, 1) := by decide +kernel
theorem dX3_set_18 : decode cX3_set 18 = .ok (.bipush (-99), 2) := by decide +kernel
theorem dX3_set_20 : decode cX3_set 20 = .ok (.bipush 99, 2) := by decide +kernel
theorem dX3_set_22 : decode cX3_set 22 = .ok (.invokestatic 53, 3) := by decide +kernel
theorem dX3_set_25 : decode cX3_set 25 = .ok (.ifCond .eq 13, 3) := by decide +kernel
theorem dX3_set_28 : decode cX3_set 28 = .ok (.new 57, 3) := by decide +kernel
theorem dX3_set_31 : decode cX3_set 31 = .ok (.dup, 1) := by decide +kernel
theorem dX3_set_32 : decode cX3_set 32 = .ok (.ldc 59, 2) := by decide +kernel
theorem dX3_set_34 : decode cX3_set 34 = .ok (.invokespecial 61, 3) := by decide +kernel
theorem dX3_set_37 : decode cX3_set 37 = .ok (.athrow, 1) := by decide +kernel
theorem dX3_set_38 : decode cX3_set 38 = .ok (.aload_n 0, 1) := by decide +kernel
theorem dX3_set_39 : decode cX3_set 39 = .ok (.getfield 27, 3) := by decide +kernel
theorem dX3_set_42 : decode cX3_set 42 = .ok (.aload_n 0, 1) := by decide +kernel
theorem dX3_set_43 : decode cX3_set 43 = .ok (.getfield 12, 3) := by decide +kernel
theorem dX3_set_46 : decode cX3_set 46 = .ok (.invokevirtual 62, 3) := by decide +kernel
theorem dX3_set_49 : decode cX3_set 49 = .ok (.aload_n 0, 1) := by decide +kernel
theorem dX3_set_50 : decode cX3_set 50 = .ok (.getfield 12, 3) := by decide +kernel
theorem dX3_set_53 : decode cX3_set 53 = .ok (.getfield 66, 3) := by decide +kernel
theorem dX3_set_56 : decode cX3_set 56 = .ok (.iload_n 1, 1) := by decide +kernel
theorem dX3_set_57 : decode cX3_set 57 = .ok (.iaload, 1) := by decide +kernel
theorem dX3_set_58 : decode cX3_set 58 = .ok (.istore_n 3, 1) := by decide +kernel
theorem dX3_set_59 : decode cX3_set 59 = .ok (.aload_n 0, 1) := by decide +kernel
theorem dX3_set_60 : decode cX3_set 60 = .ok (.getfield 12, 3) := by decide +kernel
theorem dX3_set_63 : decode cX3_set 63 = .ok (.getfield 66, 3) := by decide +kernel
theorem dX3_set_66 : decode cX3_set 66 = .ok (.iload_n 1, 1) := by decide +kernel
theorem dX3_set_67 : decode cX3_set 67 = .ok (.iload_n 2, 1) := by decide +kernel
theorem dX3_set_68 : decode cX3_set 68 = .ok (.iastore, 1) := by decide +kernel
theorem dX3_set_69 : decode cX3_set 69 = .ok (.iload_n 3, 1) := by decide +kernel
theorem dX3_set_70 : decode cX3_set 70 = .ok (.ireturn, 1) := by decide +kernel
set_option maxRecDepth 20000 in
theorem ggX3_lose_X3_isNoPlace : GoodIn wsX3_lose wsX3_isNoPlace := goodIn_r _ [8, 9, 10, 7, 11] (by decide +kernel) (by decide +kernel)
set_option maxRecDepth 20000 in
theorem gX3_lose_X3_isNoPlace : GoodIn wsX3_lose (va_wsS RX3 42 yX3_isNoPlace wsX3_isNoPlace) := goodIn_app (goodIn_of _ (by decide +kernel)) ggX3_lose_X3_isNoPlace
set_option maxRecDepth 20000 in
theorem ggX3_lose_X1_push : GoodIn wsX3_lose wsX1_push := goodIn_r _ [15, 16, 17, 18, 19, 20, 21, 22, 23, 24, 25, 26, 27, 28, 29, 30, 31, 32, 33, 34, 48, 49, 50, 44, 45, 46, 47] (by decide +kernel) (by decide +kernel)
set_option maxRecDepth 20000 in
theorem gX3_lose_X1_push_n62 : GoodIn wsX3_lose (wsX1_push) := ggX3_lose_X1_push
set_option maxRecDepth 20000 in
theorem ggX3_lose_X0_isLost : GoodIn wsX3_lose wsX0_isLost := goodIn_r _ [37, 33, 44, 45, 46, 47] (by decide +kernel) (by decide +kernel)
set_option maxRecDepth 20000 in
theorem gX3_lose_X0_isLost_n72 : GoodIn wsX3_lose (wsX0_isLost) := ggX3_lose_X0_isLost
theorem dX3_lose_0 : decode cX3_lose 0 = .ok (.iload_n 1, 1) := by decide +kernel
theorem dX3_lose_1 : decode cX3_lose 1 = .ok (.invokestatic 42, 3) := by decide +kernel
theorem dX3_lose_4 : decode cX3_lose 4 = .ok (.ifCond .eq 13, 3) := by decide +kernel
theorem dX3_lose_7 : decode cX3_lose 7 = .ok (.new 46, 3) := by decide +kernel
theorem dX3_lose_10 : decode cX3_lose 10 = .ok (.dup, 1) := by decide +kernel
theorem dX3_lose_11 : decode cX3_lose 11 = .ok (.ldc 48, 2) := by decide +kernel
theorem dX3_lose_13 : decode cX3_lose 13 = .ok (.invokespecial 50, 3) := by decide +kernel
theorem dX3_lose_16 : decode cX3_lose 16 = .ok (.athrow, 1) := by decide +kernel
theorem dX3_lose_17 : decode cX3_lose 17 = .ok (.aload_n 0, 1) := by decide +kernel
theorem dX3_lose_18 : decode cX3_lose 18 = .ok (.getfield 27, 3) := by decide +kernel
theorem dX3_lose_21 : decode cX3_lose 21 = .ok (.aload_n 0, 1) := by decide +kernel
theorem dX3_lose_22 : decode cX3_lose 22 = .ok (.getfield 12, 3) := by decide +kernel
theorem dX3_lose_25 : decode cX3_lose 25 = .ok (.invokevirtual 62, 3) := by decide +kernel
theorem dX3_lose_28 : decode cX3_lose 28 = .ok (.aload_n 0, 1) := by decide +kernel
theorem dX3_lose_29 : decode cX3_lose 29 = .ok (.getfield 12, 3) := by decide +kernel
theorem dX3_lose_32 : decode cX3_lose 32 = .ok (.dup, 1) := by decide +kernel
theorem dX3_lose_33 : decode cX3_lose 33 = .ok (.getfield 69, 3) := by decide +kernel
theorem dX3_lose_36 : decode cX3_lose 36 = .ok (.iconst 1, 1) := by decide +kernel
theorem dX3_lose_37 : decode cX3_lose 37 = .ok (.iload_n 1, 1) := by decide +kernel
theorem dX3_lose_38 : decode cX3_lose 38 = .ok (.ishl, 1) := by decide +kernel
theorem dX3_lose_39 : decode cX3_lose 39 = .ok (.ixor, 1) := by decide +kernel
theorem dX3_lose_40 : decode cX3_lose 40 = .ok (.putfield 69, 3) := by decide +kernel
theorem dX3_lose_43 : decode cX3_lose 43 = .ok (.aload_n 0, 1) := by decide +kernel
theorem dX3_lose_44 : decode cX3_lose 44 = .ok (.getfield 12, 3) := by decide +kernel
theorem dX3_lose_47 : decode cX3_lose 47 = .ok (.iload_n 1, 1) := by decide +kernel
theorem dX3_lose_48 : decode cX3_lose 48 = .ok (.invokevirtual 72, 3) := by decide +kernel
theorem dX3_lose_51 : decode cX3_lose 51 = .ok (.ifCond .eq 7, 3) := by decide +kernel
theorem dX3_lose_54 : decode cX3_lose 54 = .ok (.iconst 1, 1) := by decide +kernel
theorem dX3_lose_55 : decode cX3_lose 55 = .ok (.goto 4, 3) := by decide +kernel
theorem dX3_lose_58 : decode cX3_lose 58 = .ok (.iconst 0, 1) := by decide +kernel
theorem dX3_lose_59 : decode cX3_lose 59 = .ok (.ireturn, 1) := by decide +kernel
set_option maxRecDepth 20000 in
theorem ggX3_turn_X3_isNoPlace : GoodIn wsX3_turn wsX3_isNoPlace := goodIn_r _ [8, 9, 10, 7, 11] (by decide +kernel) (by decide +kernel)
set_option maxRecDepth 20000 in
theorem gX3_turn_X3_isNoPlace : GoodIn wsX3_turn (va_wsS RX3 42 yX3_isNoPlace wsX3_isNoPlace) := goodIn_app (goodIn_of _ (by decide +kernel)) ggX3_turn_X3_isNoPlace
set_option maxRecDepth 20000 in
theorem ggX3_turn_X1_push : GoodIn wsX3_turn wsX1_push := goodIn_r _ [15, 16, 17, 18, 19, 20, 21, 22, 23, 24, 25, 26, 27, 28, 29, 30, 31, 32, 33, 34, 55, 56, 57, 51, 52, 53, 54] (by decide +kernel) (by decide +kernel)
set_option maxRecDepth 20000 in
theorem gX3_turn_X1_push_n62 : GoodIn wsX3_turn (wsX1_push) := ggX3_turn_X1_push
set_option maxRecDepth 20000 in
theorem ggX3_turn_X3_wave : GoodIn wsX3_turn wsX3_wave := goodIn_r _ [37, 38, 39, 40, 41, 42, 43, 44] (by decide +kernel) (by decide +kernel)
set_option maxRecDepth 20000 in
theorem gX3_turn_X3_wave : GoodIn wsX3_turn (va_wsS RX3 77 yX3_wave wsX3_wave) := goodIn_app (goodIn_of _ (by decide +kernel)) ggX3_turn_X3_wave
theorem dX3_turn_0 : decode cX3_turn 0 = .ok (.iload_n 1, 1) := by decide +kernel
theorem dX3_turn_1 : decode cX3_turn 1 = .ok (.invokestatic 42, 3) := by decide +kernel
theorem dX3_turn_4 : decode cX3_turn 4 = .ok (.ifCond .eq 13, 3) := by decide +kernel
theorem dX3_turn_7 : decode cX3_turn 7 = .ok (.new 57, 3) := by decide +kernel
theorem dX3_turn_10 : decode cX3_turn 10 = .ok (.dup, 1) := by decide +kernel
theorem dX3_turn_11 : decode cX3_turn 11 = .ok (.ldc 75, 2) := by decide +kernel
theorem dX3_turn_13 : decode cX3_turn 13 = .ok (.invokespecial 61, 3) := by decide +kernel
theorem dX3_turn_16 : decode cX3_turn 16 = .ok (.athrow, 1) := by decide +kernel
theorem dX3_turn_17 : decode cX3_turn 17 = .ok (.aload_n 0, 1) := by decide +kernel
theorem dX3_turn_18 : decode cX3_turn 18 = .ok (.getfield 27, 3) := by decide +kernel
theorem dX3_turn_21 : decode cX3_turn 21 = .ok (.aload_n 0, 1) := by decide +kernel
theorem dX3_turn_22 : decode cX3_turn 22 = .ok (.getfield 12, 3) := by decide +kernel
theorem dX3_turn_25 : decode cX3_turn 25 = .ok (.invokevirtual 62, 3) := by decide +kernel
theorem dX3_turn_28 : decode cX3_turn 28 = .ok (.iconst 0, 1) := by decide +kernel
theorem dX3_turn_29 : decode cX3_turn 29 = .ok (.istore_n 2, 1) := by decide +kernel
theorem dX3_turn_30 : decode cX3_turn 30 = .ok (.iconst 0, 1) := by decide +kernel
theorem dX3_turn_31 : decode cX3_turn 31 = .ok (.istore_n 3, 1) := by decide +kernel
theorem dX3_turn_32 : decode cX3_turn 32 = .ok (.iload_n 3, 1) := by decide +kernel
theorem dX3_turn_33 : decode cX3_turn 33 = .ok (.bipush 8, 2) := by decide +kernel
theorem dX3_turn_35 : decode cX3_turn 35 = .ok (.if_icmp .ge 51, 3) := by decide +kernel
theorem dX3_turn_38 : decode cX3_turn 38 = .ok (.iload_n 3, 1) := by decide +kernel
theorem dX3_turn_39 : decode cX3_turn 39 = .ok (.iload_n 1, 1) := by decide +kernel
theorem dX3_turn_40 : decode cX3_turn 40 = .ok (.invokestatic 77, 3) := by decide +kernel
theorem dX3_turn_43 : decode cX3_turn 43 = .ok (.ifCond .ge 37, 3) := by decide +kernel
theorem dX3_turn_46 : decode cX3_turn 46 = .ok (.aload_n 0, 1) := by decide +kernel
theorem dX3_turn_47 : decode cX3_turn 47 = .ok (.getfield 12, 3) := by decide +kernel
theorem dX3_turn_50 : decode cX3_turn 50 = .ok (.getfield 66, 3) := by decide +kernel
theorem dX3_turn_53 : decode cX3_turn 53 = .ok (.iload_n 3, 1) := by decide +kernel
theorem dX3_turn_54 : decode cX3_turn 54 = .ok (.iaload, 1) := by decide +kernel
theorem dX3_turn_55 : decode cX3_turn 55 = .ok (.ifCond .eq 25, 3) := by decide +kernel
theorem dX3_turn_58 : decode cX3_turn 58 = .ok (.aload_n 0, 1) := by decide +kernel
theorem dX3_turn_59 : decode cX3_turn 59 = .ok (.getfield 12, 3) := by decide +kernel
theorem dX3_turn_62 : decode cX3_turn 62 = .ok (.getfield 66, 3) := by decide +kernel
theorem dX3_turn_65 : decode cX3_turn 65 = .ok (.iload_n 3, 1) := by decide +kernel
theorem dX3_turn_66 : decode cX3_turn 66 = .ok (.aload_n 0, 1) := by decide +kernel
theorem dX3_turn_67 : decode cX3_turn 67 = .ok (.getfield 12, 3) := by decide +kernel
theorem dX3_turn_70 : decode cX3_turn 70 = .ok (.getfield 66, 3) := by decide +kernel
theorem dX3_turn_73 : decode cX3_turn 73 = .ok (.iload_n 3, 1) := by decide +kernel
theorem dX3_turn_74 : decode cX3_turn 74 = .ok (.iaload, 1) := by decide +kernel
theorem dX3_turn_75 : decode cX3_turn 75 = .ok (.ineg, 1) := by decide +kernel
theorem dX3_turn_76 : decode cX3_turn 76 = .ok (.iastore, 1) := by decide +kernel
theorem dX3_turn_77 : decode cX3_turn 77 = .ok (.iinc 2 1, 3) := by decide +kernel
theorem dX3_turn_80 : decode cX3_turn 80 = .ok (.iinc 3 1, 3) := by decide +kernel
theorem dX3_turn_83 : decode cX3_turn 83 = .ok (.goto (-51), 3) := by decide +kernel
theorem dX3_turn_86 : decode cX3_turn 86 = .ok (.iload_n 2, 1) := by decide +kernel
theorem dX3_turn_87 : decode cX3_turn 87 = .ok (.ireturn, 1) := by decide +kernel
set_option maxRecDepth 20000 in
theorem ggX3_drop_X3_isOutside : GoodIn wsX3_drop wsX3_isOutside := goodIn_r _ [12] (by decide +kernel) (by decide +kernel)
set_option maxRecDepth 20000 in
theorem gX3_drop_X3_isOutside : GoodIn wsX3_drop (va_wsS RX3 53 yX3_isOutside wsX3_isOutside) := goodIn_app (goodIn_of _ (by decide +kernel)) ggX3_drop_X3_isOutside
set_option maxRecDepth 20000 in
theorem ggX3_drop_X1_push : GoodIn wsX3_drop wsX1_push := goodIn_r _ [16, 17, 18, 19, 20, 21, 7, 22, 23, 24, 25, 26, 27, 28, 29, 30, 31, 32, 33, 34, 45, 46, 47, 41, 42, 43, 44] (by decide +kernel) (by decide +kernel)
set_option maxRecDepth 20000 in
theorem gX3_drop_X1_push_n62 : GoodIn wsX3_drop (wsX1_push) := ggX3_drop_X1_push
theorem dX3_drop_0 : decode cX3_drop 0 = .ok (.iload_n 1, 1) := by decide +kernel
theorem dX3_drop_1 : decode cX3_drop 1 = .ok (.iconst 1, 1) := by decide +kernel
theorem dX3_drop_2 : decode cX3_drop 2 = .ok (.bipush 99, 2) := by decide +kernel
theorem dX3_drop_4 : decode cX3_drop 4 = .ok (.invokestatic 53, 3) := by decide +kernel
theorem dX3_drop_7 : decode cX3_drop 7 = .ok (.ifCond .eq 13, 3) := by decide +kernel
theorem dX3_drop_10 : decode cX3_drop 10 = .ok (.new 57, 3) := by decide +kernel
theorem dX3_drop_13 : decode cX3_drop 13 = .ok (.dup, 1) := by decide +kernel
theorem dX3_drop_14 : decode cX3_drop 14 = .ok (.ldc 81, 2) := by decide +kernel
theorem dX3_drop_16 : decode cX3_drop 16 = .ok (.invokespecial 61, 3) := by decide +kernel
theorem dX3_drop_19 : decode cX3_drop 19 = .ok (.athrow, 1) := by decide +kernel
theorem dX3_drop_20 : decode cX3_drop 20 = .ok (.aload_n 0, 1) := by decide +kernel
theorem dX3_drop_21 : decode cX3_drop 21 = .ok (.getfield 27, 3) := by decide +kernel
theorem dX3_drop_24 : decode cX3_drop 24 = .ok (.aload_n 0, 1) := by decide +kernel
theorem dX3_drop_25 : decode cX3_drop 25 = .ok (.getfield 12, 3) := by decide +kernel
theorem dX3_drop_28 : decode cX3_drop 28 = .ok (.invokevirtual 62, 3) := by decide +kernel
theorem dX3_drop_31 : decode cX3_drop 31 = .ok (.iconst 0, 1) := by decide +kernel
theorem dX3_drop_32 : decode cX3_drop 32 = .ok (.istore_n 2, 1) := by decide +kernel
theorem dX3_drop_33 : decode cX3_drop 33 = .ok (.iconst 0, 1) := by decide +kernel
theorem dX3_drop_34 : decode cX3_drop 34 = .ok (.istore_n 3, 1) := by decide +kernel
theorem dX3_drop_35 : decode cX3_drop 35 = .ok (.iload_n 3, 1) := by decide +kernel
theorem dX3_drop_36 : decode cX3_drop 36 = .ok (.bipush 8, 2) := by decide +kernel
theorem dX3_drop_38 : decode cX3_drop 38 = .ok (.if_icmp .ge 50, 3) := by decide +kernel
theorem dX3_drop_41 : decode cX3_drop 41 = .ok (.aload_n 0, 1) := by decide +kernel
theorem dX3_drop_42 : decode cX3_drop 42 = .ok (.getfield 12, 3) := by decide +kernel
theorem dX3_drop_45 : decode cX3_drop 45 = .ok (.getfield 66, 3) := by decide +kernel
theorem dX3_drop_48 : decode cX3_drop 48 = .ok (.iload_n 3, 1) := by decide +kernel
theorem dX3_drop_49 : decode cX3_drop 49 = .ok (.iaload, 1) := by decide +kernel
theorem dX3_drop_50 : decode cX3_drop 50 = .ok (.ifCond .eq 32, 3) := by decide +kernel
theorem dX3_drop_53 : decode cX3_drop 53 = .ok (.aload_n 0, 1) := by decide +kernel
theorem dX3_drop_54 : decode cX3_drop 54 = .ok (.getfield 12, 3) := by decide +kernel
theorem dX3_drop_57 : decode cX3_drop 57 = .ok (.getfield 66, 3) := by decide +kernel
theorem dX3_drop_60 : decode cX3_drop 60 = .ok (.iload_n 3, 1) := by decide +kernel
theorem dX3_drop_61 : decode cX3_drop 61 = .ok (.iaload, 1) := by decide +kernel
theorem dX3_drop_62 : decode cX3_drop 62 = .ok (.invokestatic 83, 3) := by decide +kernel
theorem dX3_drop_65 : decode cX3_drop 65 = .ok (.iload_n 1, 1) := by decide +kernel
theorem dX3_drop_66 : decode cX3_drop 66 = .ok (.if_icmp .ge 16, 3) := by decide +kernel
theorem dX3_drop_69 : decode cX3_drop 69 = .ok (.aload_n 0, 1) := by decide +kernel
theorem dX3_drop_70 : decode cX3_drop 70 = .ok (.getfield 12, 3) := by decide +kernel
theorem dX3_drop_73 : decode cX3_drop 73 = .ok (.getfield 66, 3) := by decide +kernel
theorem dX3_drop_76 : decode cX3_drop 76 = .ok (.iload_n 3, 1) := by decide +kernel
theorem dX3_drop_77 : decode cX3_drop 77 = .ok (.iconst 0, 1) := by decide +kernel
theorem dX3_drop_78 : decode cX3_drop 78 = .ok (.iastore, 1) := by decide +kernel
theorem dX3_drop_79 : decode cX3_drop 79 = .ok (.iinc 2 1, 3) := by decide +kernel
theorem dX3_drop_82 : decode cX3_drop 82 = .ok (.iinc 3 1, 3) := by decide +kernel
theorem dX3_drop_85 : decode cX3_drop 85 = .ok (.goto (-50), 3) := by decide +kernel
theorem dX3_drop_88 : decode cX3_drop 88 = .ok (.iload_n 2, 1) := by decide +kernel
theorem dX3_drop_89 : decode cX3_drop 89 = .ok (.ireturn, 1) := by decide +kernel
set_option maxRecDepth 20000 in
theorem ggX3_point_X3_isNoPlace : GoodIn wsX3_point wsX3_isNoPlace := goodIn_r _ [10, 11, 12, 9, 13] (by decide +kernel) (by decide +kernel)
set_option maxRecDepth 20000 in
theorem gX3_point_X3_isNoPlace : GoodIn wsX3_point (va_wsS RX3 42 yX3_isNoPlace wsX3_isNoPlace) := goodIn_app (goodIn_of _ (by decide +kernel)) ggX3_point_X3_isNoPlace
set_option maxRecDepth 20000 in
theorem ggX3_point_X3_isOutside : GoodIn wsX3_point wsX3_isOutside := goodIn_r _ [13] (by decide +kernel) (by decide +kernel)
set_option maxRecDepth 20000 in
theorem gX3_point_X3_isOutside : GoodIn wsX3_point (va_wsS RX3 53 yX3_isOutside wsX3_isOutside) := goodIn_app (goodIn_of _ (by decide +kernel)) ggX3_point_X3_isOutside
set_option maxRecDepth 20000 in
theorem ggX3_point_X1_push : GoodIn wsX3_point wsX1_push := goodIn_r _ [17, 18, 19, 20, 21, 22, 23, 24, 25, 26, 27, 28, 29, 30, 31, 32, 33, 34, 35, 36, 47, 48, 49, 43, 44, 45, 46] (by decide +kernel) (by decide +kernel)
set_option maxRecDepth 20000 in
theorem gX3_point_X1_push_n62 : GoodIn wsX3_point (wsX1_push) := ggX3_point_X1_push
theorem dX3_point_0 : decode cX3_point 0 = .ok (.iload_n 1, 1) := by decide +kernel
theorem dX3_point_1 : decode cX3_point 1 = .ok (.invokestatic 42, 3) := by decide +kernel
theorem dX3_point_4 : decode cX3_point 4 = .ok (.ifCond .eq 13, 3) := by decide +kernel
theorem dX3_point_7 : decode cX3_point 7 = .ok (.new 46, 3) := by decide +kernel
theorem dX3_point_10 : decode cX3_point 10 = .ok (.dup, 1) := by decide +kernel
theorem dX3_point_11 : decode cX3_point 11 = .ok (.ldc 89, 2) := by decide +kernel
theorem dX3_point_13 : decode cX3_point 13 = .ok (.invokespecial 50, 3) := by decide +kernel
theorem dX3_point_16 : decode cX3_point 16 = .ok (.athrow, 1) := by decide +kernel
theorem dX3_point_17 : decode cX3_point 17 = .ok (.iload_n 2, 1) := by decide +kernel
theorem dX3_point_18 : decode cX3_point 18 = .ok (.sipush (-9999), 3) := by decide +kernel
theorem dX3_point_21 : decode cX3_point 21 = .ok (.sipush 9999, 3) := by decide +kernel
theorem dX3_point_24 : decode cX3_point 24 = .ok (.invokestatic 53, 3) := by decide +kernel
theorem dX3_point_27 : decode cX3_point 27 = .ok (.ifCond .eq 13, 3) := by decide +kernel
theorem dX3_point_30 : decode cX3_point 30 = .ok (.new 57, 3) := by decide +kernel
theorem dX3_point_33 : decode cX3_point 33 = .ok (.dup, 1) := by decide +kernel
theorem dX3_point_34 : decode cX3_point 34 = .ok (.ldc 91, 2) := by decide +kernel
theorem dX3_point_36 : decode cX3_point 36 = .ok (.invokespecial 61, 3) := by decide +kernel
theorem dX3_point_39 : decode cX3_point 39 = .ok (.athrow, 1) := by decide +kernel
theorem dX3_point_40 : decode cX3_point 40 = .ok (.aload_n 0, 1) := by decide +kernel
theorem dX3_point_41 : decode cX3_point 41 = .ok (.getfield 27, 3) := by decide +kernel
theorem dX3_point_44 : decode cX3_point 44 = .ok (.aload_n 0, 1) := by decide +kernel
theorem dX3_point_45 : decode cX3_point 45 = .ok (.getfield 12, 3) := by decide +kernel
theorem dX3_point_48 : decode cX3_point 48 = .ok (.invokevirtual 62, 3) := by decide +kernel
theorem dX3_point_51 : decode cX3_point 51 = .ok (.aload_n 0, 1) := by decide +kernel
theorem dX3_point_52 : decode cX3_point 52 = .ok (.getfield 12, 3) := by decide +kernel
theorem dX3_point_55 : decode cX3_point 55 = .ok (.getfield 93, 3) := by decide +kernel
theorem dX3_point_58 : decode cX3_point 58 = .ok (.iload_n 1, 1) := by decide +kernel
theorem dX3_point_59 : decode cX3_point 59 = .ok (.iaload, 1) := by decide +kernel
theorem dX3_point_60 : decode cX3_point 60 = .ok (.istore_n 3, 1) := by decide +kernel
theorem dX3_point_61 : decode cX3_point 61 = .ok (.aload_n 0, 1) := by decide +kernel
theorem dX3_point_62 : decode cX3_point 62 = .ok (.getfield 12, 3) := by decide +kernel
theorem dX3_point_65 : decode cX3_point 65 = .ok (.getfield 93, 3) := by decide +kernel
theorem dX3_point_68 : decode cX3_point 68 = .ok (.iload_n 1, 1) := by decide +kernel
theorem dX3_point_69 : decode cX3_point 69 = .ok (.iload_n 2, 1) := by decide +kernel
theorem dX3_point_70 : decode cX3_point 70 = .ok (.iastore, 1) := by decide +kernel
theorem dX3_point_71 : decode cX3_point 71 = .ok (.iload_n 3, 1) := by decide +kernel
theorem dX3_point_72 : decode cX3_point 72 = .ok (.ireturn, 1) := by decide +kernel
set_option maxRecDepth 20000 in
theorem ggX3_copy_X1_push : GoodIn wsX3_copy wsX1_push := goodIn_r _ [6, 7, 8, 9, 10, 11, 12, 13, 14, 15, 16, 17, 18, 19, 20, 21, 22, 23, 24, 25, 57, 58, 59, 53, 54, 55, 56] (by decide +kernel) (by decide +kernel)
set_option maxRecDepth 20000 in
theorem gX3_copy_X1_push_n62 : GoodIn wsX3_copy (wsX1_push) := ggX3_copy_X1_push
set_option maxRecDepth 20000 in
theorem ggX3_copy_X0_traceAt : GoodIn wsX3_copy wsX0_traceAt := goodIn_r _ [28, 29, 30, 31, 15, 32, 18, 33, 34, 35, 36, 24, 37, 38, 39, 40, 41, 42, 43, 44, 45, 46, 53, 54, 55, 56] (by decide +kernel) (by decide +kernel)
set_option maxRecDepth 20000 in
theorem gX3_copy_X0_traceAt_n96 : GoodIn wsX3_copy (wsX0_traceAt) := ggX3_copy_X0_traceAt
theorem dX3_copy_0 : decode cX3_copy 0 = .ok (.aload_n 0, 1) := by decide +kernel
theorem dX3_copy_1 : decode cX3_copy 1 = .ok (.getfield 27, 3) := by decide +kernel
theorem dX3_copy_4 : decode cX3_copy 4 = .ok (.aload_n 0, 1) := by decide +kernel
theorem dX3_copy_5 : decode cX3_copy 5 = .ok (.getfield 12, 3) := by decide +kernel
theorem dX3_copy_8 : decode cX3_copy 8 = .ok (.invokevirtual 62, 3) := by decide +kernel
theorem dX3_copy_11 : decode cX3_copy 11 = .ok (.iconst 0, 1) := by decide +kernel
theorem dX3_copy_12 : decode cX3_copy 12 = .ok (.istore_n 1, 1) := by decide +kernel
theorem dX3_copy_13 : decode cX3_copy 13 = .ok (.iconst 0, 1) := by decide +kernel
theorem dX3_copy_14 : decode cX3_copy 14 = .ok (.istore_n 2, 1) := by decide +kernel
theorem dX3_copy_15 : decode cX3_copy 15 = .ok (.iload_n 2, 1) := by decide +kernel
theorem dX3_copy_16 : decode cX3_copy 16 = .ok (.bipush 8, 2) := by decide +kernel
theorem dX3_copy_18 : decode cX3_copy 18 = .ok (.if_icmp .ge 44, 3) := by decide +kernel
theorem dX3_copy_21 : decode cX3_copy 21 = .ok (.aload_n 0, 1) := by decide +kernel
theorem dX3_copy_22 : decode cX3_copy 22 = .ok (.getfield 12, 3) := by decide +kernel
theorem dX3_copy_25 : decode cX3_copy 25 = .ok (.iload_n 2, 1) := by decide +kernel
theorem dX3_copy_26 : decode cX3_copy 26 = .ok (.invokevirtual 96, 3) := by decide +kernel
theorem dX3_copy_29 : decode cX3_copy 29 = .ok (.istore_n 3, 1) := by decide +kernel
theorem dX3_copy_30 : decode cX3_copy 30 = .ok (.aload_n 0, 1) := by decide +kernel
theorem dX3_copy_31 : decode cX3_copy 31 = .ok (.getfield 12, 3) := by decide +kernel
theorem dX3_copy_34 : decode cX3_copy 34 = .ok (.getfield 93, 3) := by decide +kernel
theorem dX3_copy_37 : decode cX3_copy 37 = .ok (.iload_n 2, 1) := by decide +kernel
theorem dX3_copy_38 : decode cX3_copy 38 = .ok (.iaload, 1) := by decide +kernel
theorem dX3_copy_39 : decode cX3_copy 39 = .ok (.iload_n 3, 1) := by decide +kernel
theorem dX3_copy_40 : decode cX3_copy 40 = .ok (.if_icmp .eq 16, 3) := by decide +kernel
theorem dX3_copy_43 : decode cX3_copy 43 = .ok (.aload_n 0, 1) := by decide +kernel
theorem dX3_copy_44 : decode cX3_copy 44 = .ok (.getfield 12, 3) := by decide +kernel
theorem dX3_copy_47 : decode cX3_copy 47 = .ok (.getfield 93, 3) := by decide +kernel
theorem dX3_copy_50 : decode cX3_copy 50 = .ok (.iload_n 2, 1) := by decide +kernel
theorem dX3_copy_51 : decode cX3_copy 51 = .ok (.iload_n 3, 1) := by decide +kernel
theorem dX3_copy_52 : decode cX3_copy 52 = .ok (.iastore, 1) := by decide +kernel
theorem dX3_copy_53 : decode cX3_copy 53 = .ok (.iinc 1 1, 3) := by decide +kernel
theorem dX3_copy_56 : decode cX3_copy 56 = .ok (.iinc 2 1, 3) := by decide +kernel
theorem dX3_copy_59 : decode cX3_copy 59 = .ok (.goto (-44), 3) := by decide +kernel
theorem dX3_copy_62 : decode cX3_copy 62 = .ok (.iload_n 1, 1) := by decide +kernel
theorem dX3_copy_63 : decode cX3_copy 63 = .ok (.ireturn, 1) := by decide +kernel
set_option maxRecDepth 20000 in
theorem ggX3_fit_X1_push : GoodIn wsX3_fit wsX1_push := goodIn_r _ [13, 14, 15, 16, 17, 4, 5, 6, 18, 19, 20, 21, 22, 23, 24, 25, 26, 27, 28, 29, 57, 58, 59, 53, 54, 55, 56] (by decide +kernel) (by decide +kernel)
set_option maxRecDepth 20000 in
theorem gX3_fit_X1_push_n62 : GoodIn wsX3_fit (wsX1_push) := ggX3_fit_X1_push
set_option maxRecDepth 20000 in
theorem ggX3_fit_X0_patternAmplitude : GoodIn wsX3_fit wsX0_patternAmplitude := goodIn_r _ [32, 27, 33, 34, 35, 36, 37, 38, 39, 40, 41, 42, 43, 44, 45, 46, 53, 54, 55, 56] (by decide +kernel) (by decide +kernel)
set_option maxRecDepth 20000 in
theorem gX3_fit_X0_patternAmplitude_n99 : GoodIn wsX3_fit (wsX0_patternAmplitude) := ggX3_fit_X0_patternAmplitude
theorem dX3_fit_0 : decode cX3_fit 0 = .ok (.aload_n 0, 1) := by decide +kernel
theorem dX3_fit_1 : decode cX3_fit 1 = .ok (.getfield 27, 3) := by decide +kernel
theorem dX3_fit_4 : decode cX3_fit 4 = .ok (.aload_n 0, 1) := by decide +kernel
theorem dX3_fit_5 : decode cX3_fit 5 = .ok (.getfield 12, 3) := by decide +kernel
theorem dX3_fit_8 : decode cX3_fit 8 = .ok (.invokevirtual 62, 3) := by decide +kernel
theorem dX3_fit_11 : decode cX3_fit 11 = .ok (.iconst 0, 1) := by decide +kernel
theorem dX3_fit_12 : decode cX3_fit 12 = .ok (.istore_n 1, 1) := by decide +kernel
theorem dX3_fit_13 : decode cX3_fit 13 = .ok (.iconst 0, 1) := by decide +kernel
theorem dX3_fit_14 : decode cX3_fit 14 = .ok (.istore_n 2, 1) := by decide +kernel
theorem dX3_fit_15 : decode cX3_fit 15 = .ok (.iload_n 2, 1) := by decide +kernel
theorem dX3_fit_16 : decode cX3_fit 16 = .ok (.bipush 8, 2) := by decide +kernel
theorem dX3_fit_18 : decode cX3_fit 18 = .ok (.if_icmp .ge 54, 3) := by decide +kernel
theorem dX3_fit_21 : decode cX3_fit 21 = .ok (.bipush (-99), 2) := by decide +kernel
theorem dX3_fit_23 : decode cX3_fit 23 = .ok (.bipush 99, 2) := by decide +kernel
theorem dX3_fit_25 : decode cX3_fit 25 = .ok (.aload_n 0, 1) := by decide +kernel
theorem dX3_fit_26 : decode cX3_fit 26 = .ok (.getfield 12, 3) := by decide +kernel
theorem dX3_fit_29 : decode cX3_fit 29 = .ok (.iload_n 2, 1) := by decide +kernel
theorem dX3_fit_30 : decode cX3_fit 30 = .ok (.invokevirtual 99, 3) := by decide +kernel
theorem dX3_fit_33 : decode cX3_fit 33 = .ok (.invokestatic 102, 3) := by decide +kernel
theorem dX3_fit_36 : decode cX3_fit 36 = .ok (.invokestatic 105, 3) := by decide +kernel
theorem dX3_fit_39 : decode cX3_fit 39 = .ok (.istore_n 3, 1) := by decide +kernel
theorem dX3_fit_40 : decode cX3_fit 40 = .ok (.aload_n 0, 1) := by decide +kernel
theorem dX3_fit_41 : decode cX3_fit 41 = .ok (.getfield 12, 3) := by decide +kernel
theorem dX3_fit_44 : decode cX3_fit 44 = .ok (.getfield 66, 3) := by decide +kernel
theorem dX3_fit_47 : decode cX3_fit 47 = .ok (.iload_n 2, 1) := by decide +kernel
theorem dX3_fit_48 : decode cX3_fit 48 = .ok (.iaload, 1) := by decide +kernel
theorem dX3_fit_49 : decode cX3_fit 49 = .ok (.iload_n 3, 1) := by decide +kernel
theorem dX3_fit_50 : decode cX3_fit 50 = .ok (.if_icmp .eq 16, 3) := by decide +kernel
theorem dX3_fit_53 : decode cX3_fit 53 = .ok (.aload_n 0, 1) := by decide +kernel
theorem dX3_fit_54 : decode cX3_fit 54 = .ok (.getfield 12, 3) := by decide +kernel
theorem dX3_fit_57 : decode cX3_fit 57 = .ok (.getfield 66, 3) := by decide +kernel
theorem dX3_fit_60 : decode cX3_fit 60 = .ok (.iload_n 2, 1) := by decide +kernel
theorem dX3_fit_61 : decode cX3_fit 61 = .ok (.iload_n 3, 1) := by decide +kernel
theorem dX3_fit_62 : decode cX3_fit 62 = .ok (.iastore, 1) := by decide +kernel
theorem dX3_fit_63 : decode cX3_fit 63 = .ok (.iinc 1 1, 3) := by decide +kernel
theorem dX3_fit_66 : decode cX3_fit 66 = .ok (.iinc 2 1, 3) := by decide +kernel
theorem dX3_fit_69 : decode cX3_fit 69 = .ok (.goto (-54), 3) := by decide +kernel
theorem dX3_fit_72 : decode cX3_fit 72 = .ok (.aload_n 0, 1) := by decide +kernel
theorem dX3_fit_73 : decode cX3_fit 73 = .ok (.getfield 12, 3) := by decide +kernel
theorem dX3_fit_76 : decode cX3_fit 76 = .ok (.iconst 0, 1) := by decide +kernel
theorem dX3_fit_77 : decode cX3_fit 77 = .ok (.putfield 69, 3) := by decide +kernel
theorem dX3_fit_80 : decode cX3_fit 80 = .ok (.aload_n 0, 1) := by decide +kernel
theorem dX3_fit_81 : decode cX3_fit 81 = .ok (.getfield 12, 3) := by decide +kernel
theorem dX3_fit_84 : decode cX3_fit 84 = .ok (.dup, 1) := by decide +kernel
theorem dX3_fit_85 : decode cX3_fit 85 = .ok (.getfield 108, 3) := by decide +kernel
theorem dX3_fit_88 : decode cX3_fit 88 = .ok (.iload_n 1, 1) := by decide +kernel
theorem dX3_fit_89 : decode cX3_fit 89 = .ok (.iadd, 1) := by decide +kernel
theorem dX3_fit_90 : decode cX3_fit 90 = .ok (.putfield 108, 3) := by decide +kernel
theorem dX3_fit_93 : decode cX3_fit 93 = .ok (.iload_n 1, 1) := by decide +kernel
theorem dX3_fit_94 : decode cX3_fit 94 = .ok (.ireturn, 1) := by decide +kernel
set_option maxRecDepth 20000 in
theorem ggX3_undo_X1_popInto : GoodIn wsX3_undo wsX1_popInto := goodIn_r _ [8, 9, 10, 11, 12, 13, 14, 15, 16, 17, 18, 19, 20, 21, 22, 23, 30, 31, 32, 33, 34, 35, 36] (by decide +kernel) (by decide +kernel)
set_option maxRecDepth 20000 in
theorem gX3_undo_X1_popInto_n162 : GoodIn wsX3_undo (wsX1_popInto) := ggX3_undo_X1_popInto
theorem dX3_undo_0 : decode cX3_undo 0 = .ok (.aload_n 0, 1) := by decide +kernel
theorem dX3_undo_1 : decode cX3_undo 1 = .ok (.getfield 27, 3) := by decide +kernel
theorem dX3_undo_4 : decode cX3_undo 4 = .ok (.getfield 157, 3) := by decide +kernel
theorem dX3_undo_7 : decode cX3_undo 7 = .ok (.ifCond .ne 13, 3) := by decide +kernel
theorem dX3_undo_10 : decode cX3_undo 10 = .ok (.new 117, 3) := by decide +kernel
theorem dX3_undo_13 : decode cX3_undo 13 = .ok (.dup, 1) := by decide +kernel
theorem dX3_undo_14 : decode cX3_undo 14 = .ok (.ldc 160, 2) := by decide +kernel
theorem dX3_undo_16 : decode cX3_undo 16 = .ok (.invokespecial 121, 3) := by decide +kernel
theorem dX3_undo_19 : decode cX3_undo 19 = .ok (.athrow, 1) := by decide +kernel
theorem dX3_undo_20 : decode cX3_undo 20 = .ok (.aload_n 0, 1) := by decide +kernel
theorem dX3_undo_21 : decode cX3_undo 21 = .ok (.getfield 27, 3) := by decide +kernel
theorem dX3_undo_24 : decode cX3_undo 24 = .ok (.aload_n 0, 1) := by decide +kernel
theorem dX3_undo_25 : decode cX3_undo 25 = .ok (.getfield 12, 3) := by decide +kernel
theorem dX3_undo_28 : decode cX3_undo 28 = .ok (.invokevirtual 162, 3) := by decide +kernel
theorem dX3_undo_31 : decode cX3_undo 31 = .ok (.aload_n 0, 1) := by decide +kernel
theorem dX3_undo_32 : decode cX3_undo 32 = .ok (.getfield 27, 3) := by decide +kernel
theorem dX3_undo_35 : decode cX3_undo 35 = .ok (.getfield 157, 3) := by decide +kernel
theorem dX3_undo_38 : decode cX3_undo 38 = .ok (.ireturn, 1) := by decide +kernel
set_option maxRecDepth 20000 in
theorem ggX3_wheelOf_X3_isNoPlace : GoodIn wsX3_wheelOf wsX3_isNoPlace := goodIn_r _ [8, 9, 10, 7, 11] (by decide +kernel) (by decide +kernel)
set_option maxRecDepth 20000 in
theorem gX3_wheelOf_X3_isNoPlace : GoodIn wsX3_wheelOf (va_wsS RX3 42 yX3_isNoPlace wsX3_isNoPlace) := goodIn_app (goodIn_of _ (by decide +kernel)) ggX3_wheelOf_X3_isNoPlace
set_option maxRecDepth 20000 in
theorem ggX3_wheelOf_X3_isOutside : GoodIn wsX3_wheelOf wsX3_isOutside := goodIn_r _ [11] (by decide +kernel) (by decide +kernel)
set_option maxRecDepth 20000 in
theorem gX3_wheelOf_X3_isOutside : GoodIn wsX3_wheelOf (va_wsS RX3 53 yX3_isOutside wsX3_isOutside) := goodIn_app (goodIn_of _ (by decide +kernel)) ggX3_wheelOf_X3_isOutside
set_option maxRecDepth 20000 in
theorem ggX3_wheelOf_X3_wheelNumber : GoodIn wsX3_wheelOf wsX3_wheelNumber := goodIn_r _ [15, 16, 17, 18, 19, 20, 21, 22, 23, 24, 25, 26, 7, 27, 28, 29, 30, 31, 32, 33, 34, 35, 36, 37, 38, 39, 40, 41, 42, 43, 44, 45, 46, 47, 48, 49, 50, 51, 52] (by decide +kernel) (by decide +kernel)
set_option maxRecDepth 20000 in
theorem gX3_wheelOf_X3_wheelNumber : GoodIn wsX3_wheelOf (wsV RX3 167 RX3 yX3_wheelNumber wsX3_wheelNumber) := goodIn_app (goodIn_of _ (by decide +kernel)) ggX3_wheelOf_X3_wheelNumber
theorem dX3_wheelOf_0 : decode cX3_wheelOf 0 = .ok (.iload_n 1, 1) := by decide +kernel
theorem dX3_wheelOf_1 : decode cX3_wheelOf 1 = .ok (.invokestatic 42, 3) := by decide +kernel
theorem dX3_wheelOf_4 : decode cX3_wheelOf 4 = .ok (.ifCond .eq 13, 3) := by decide +kernel
theorem dX3_wheelOf_7 : decode cX3_wheelOf 7 = .ok (.new 46, 3) := by decide +kernel
theorem dX3_wheelOf_10 : decode cX3_wheelOf 10 = .ok (.dup, 1) := by decide +kernel
theorem dX3_wheelOf_11 : decode cX3_wheelOf 11 = .ok (.ldc 48, 2) := by decide +kernel
theorem dX3_wheelOf_13 : decode cX3_wheelOf 13 = .ok (.invokespecial 50, 3) := by decide +kernel
theorem dX3_wheelOf_16 : decode cX3_wheelOf 16 = .ok (.athrow, 1) := by decide +kernel
theorem dX3_wheelOf_17 : decode cX3_wheelOf 17 = .ok (.iload_n 2, 1) := by decide +kernel
theorem dX3_wheelOf_18 : decode cX3_wheelOf 18 = .ok (.iconst 0, 1) := by decide +kernel
theorem dX3_wheelOf_19 : decode cX3_wheelOf 19 = .ok (.iconst 3, 1) := by decide +kernel
theorem dX3_wheelOf_20 : decode cX3_wheelOf 20 = .ok (.invokestatic 53, 3) := by decide +kernel
theorem dX3_wheelOf_23 : decode cX3_wheelOf 23 = .ok (.ifCond .eq 13, 3) := by decide +kernel
theorem dX3_wheelOf_26 : decode cX3_wheelOf 26 = .ok (.new 57, 3) := by decide +kernel
theorem dX3_wheelOf_29 : decode cX3_wheelOf 29 = .ok (.dup, 1) := by decide +kernel
theorem dX3_wheelOf_30 : decode cX3_wheelOf 30 = .ok (.ldc 165, 2) := by decide +kernel
theorem dX3_wheelOf_32 : decode cX3_wheelOf 32 = .ok (.invokespecial 61, 3) := by decide +kernel
theorem dX3_wheelOf_35 : decode cX3_wheelOf 35 = .ok (.athrow, 1) := by decide +kernel
theorem dX3_wheelOf_36 : decode cX3_wheelOf 36 = .ok (.aload_n 0, 1) := by decide +kernel
theorem dX3_wheelOf_37 : decode cX3_wheelOf 37 = .ok (.iload_n 1, 1) := by decide +kernel
theorem dX3_wheelOf_38 : decode cX3_wheelOf 38 = .ok (.iload_n 2, 1) := by decide +kernel
theorem dX3_wheelOf_39 : decode cX3_wheelOf 39 = .ok (.invokevirtual 167, 3) := by decide +kernel
theorem dX3_wheelOf_42 : decode cX3_wheelOf 42 = .ok (.ireturn, 1) := by decide +kernel
set_option maxRecDepth 20000 in
theorem ggX3_trace_X3_isNoPlace : GoodIn wsX3_trace wsX3_isNoPlace := goodIn_r _ [8, 9, 10, 7, 11] (by decide +kernel) (by decide +kernel)
set_option maxRecDepth 20000 in
theorem gX3_trace_X3_isNoPlace : GoodIn wsX3_trace (va_wsS RX3 42 yX3_isNoPlace wsX3_isNoPlace) := goodIn_app (goodIn_of _ (by decide +kernel)) ggX3_trace_X3_isNoPlace
set_option maxRecDepth 20000 in
theorem ggX3_trace_X3_isOutside : GoodIn wsX3_trace wsX3_isOutside := goodIn_r _ [11] (by decide +kernel) (by decide +kernel)
set_option maxRecDepth 20000 in
theorem gX3_trace_X3_isOutside : GoodIn wsX3_trace (va_wsS RX3 53 yX3_isOutside wsX3_isOutside) := goodIn_app (goodIn_of _ (by decide +kernel)) ggX3_trace_X3_isOutside
set_option maxRecDepth 20000 in
theorem ggX3_trace_X3_traceNumber : GoodIn wsX3_trace wsX3_traceNumber := goodIn_r _ [15, 16, 17, 18, 19, 20, 21, 22, 23, 24, 25, 26, 27, 28, 29, 30, 31, 32, 7, 33, 34, 35, 36, 37, 38, 39, 40, 41, 42, 43, 44, 45, 46, 47, 48, 49, 50, 51, 52, 53, 54] (by decide +kernel) (by decide +kernel)
set_option maxRecDepth 20000 in
theorem gX3_trace_X3_traceNumber : GoodIn wsX3_trace (wsV RX3 172 RX3 yX3_traceNumber wsX3_traceNumber) := goodIn_app (goodIn_of _ (by decide +kernel)) ggX3_trace_X3_traceNumber
theorem dX3_trace_0 : decode cX3_trace 0 = .ok (.iload_n 1, 1) := by decide +kernel
theorem dX3_trace_1 : decode cX3_trace 1 = .ok (.invokestatic 42, 3) := by decide +kernel
theorem dX3_trace_4 : decode cX3_trace 4 = .ok (.ifCond .eq 13, 3) := by decide +kernel
theorem dX3_trace_7 : decode cX3_trace 7 = .ok (.new 46, 3) := by decide +kernel
theorem dX3_trace_10 : decode cX3_trace 10 = .ok (.dup, 1) := by decide +kernel
theorem dX3_trace_11 : decode cX3_trace 11 = .ok (.ldc 89, 2) := by decide +kernel
theorem dX3_trace_13 : decode cX3_trace 13 = .ok (.invokespecial 50, 3) := by decide +kernel
theorem dX3_trace_16 : decode cX3_trace 16 = .ok (.athrow, 1) := by decide +kernel
theorem dX3_trace_17 : decode cX3_trace 17 = .ok (.iload_n 2, 1) := by decide +kernel
theorem dX3_trace_18 : decode cX3_trace 18 = .ok (.iconst 0, 1) := by decide +kernel
theorem dX3_trace_19 : decode cX3_trace 19 = .ok (.iconst 1, 1) := by decide +kernel
theorem dX3_trace_20 : decode cX3_trace 20 = .ok (.invokestatic 53, 3) := by decide +kernel
theorem dX3_trace_23 : decode cX3_trace 23 = .ok (.ifCond .eq 13, 3) := by decide +kernel
theorem dX3_trace_26 : decode cX3_trace 26 = .ok (.new 57, 3) := by decide +kernel
theorem dX3_trace_29 : decode cX3_trace 29 = .ok (.dup, 1) := by decide +kernel
theorem dX3_trace_30 : decode cX3_trace 30 = .ok (.ldc 170, 2) := by decide +kernel
theorem dX3_trace_32 : decode cX3_trace 32 = .ok (.invokespecial 61, 3) := by decide +kernel
theorem dX3_trace_35 : decode cX3_trace 35 = .ok (.athrow, 1) := by decide +kernel
theorem dX3_trace_36 : decode cX3_trace 36 = .ok (.aload_n 0, 1) := by decide +kernel
theorem dX3_trace_37 : decode cX3_trace 37 = .ok (.iload_n 1, 1) := by decide +kernel
theorem dX3_trace_38 : decode cX3_trace 38 = .ok (.iload_n 2, 1) := by decide +kernel
theorem dX3_trace_39 : decode cX3_trace 39 = .ok (.invokevirtual 172, 3) := by decide +kernel
theorem dX3_trace_42 : decode cX3_trace 42 = .ok (.ireturn, 1) := by decide +kernel
set_option maxRecDepth 20000 in
theorem ggX3_pointOf_X3_isNoPlace : GoodIn wsX3_pointOf wsX3_isNoPlace := goodIn_r _ [8, 9, 10, 7, 11] (by decide +kernel) (by decide +kernel)
set_option maxRecDepth 20000 in
theorem gX3_pointOf_X3_isNoPlace : GoodIn wsX3_pointOf (va_wsS RX3 42 yX3_isNoPlace wsX3_isNoPlace) := goodIn_app (goodIn_of _ (by decide +kernel)) ggX3_pointOf_X3_isNoPlace
set_option maxRecDepth 20000 in
theorem ggX3_pointOf_X3_isOutside : GoodIn wsX3_pointOf wsX3_isOutside := goodIn_r _ [11] (by decide +kernel) (by decide +kernel)
set_option maxRecDepth 20000 in
theorem gX3_pointOf_X3_isOutside : GoodIn wsX3_pointOf (va_wsS RX3 53 yX3_isOutside wsX3_isOutside) := goodIn_app (goodIn_of _ (by decide +kernel)) ggX3_pointOf_X3_isOutside
set_option maxRecDepth 20000 in
theorem ggX3_pointOf_X3_pointNumber : GoodIn wsX3_pointOf wsX3_pointNumber := goodIn_r _ [15, 16, 17, 18, 19, 20, 21, 22, 23, 24, 25, 26, 27, 28, 29, 30, 31, 32, 33, 34, 35, 36, 7, 37, 38, 39, 40, 41, 42, 43, 44, 45, 46, 47, 48, 49, 50, 51, 52, 53, 54, 55, 56, 57] (by decide +kernel) (by decide +kernel)
set_option maxRecDepth 20000 in
theorem gX3_pointOf_X3_pointNumber : GoodIn wsX3_pointOf (wsV RX3 177 RX3 yX3_pointNumber wsX3_pointNumber) := goodIn_app (goodIn_of _ (by decide +kernel)) ggX3_pointOf_X3_pointNumber
theorem dX3_pointOf_0 : decode cX3_pointOf 0 = .ok (.iload_n 1, 1) := by decide +kernel
theorem dX3_pointOf_1 : decode cX3_pointOf 1 = .ok (.invokestatic 42, 3) := by decide +kernel
theorem dX3_pointOf_4 : decode cX3_pointOf 4 = .ok (.ifCond .eq 13, 3) := by decide +kernel
theorem dX3_pointOf_7 : decode cX3_pointOf 7 = .ok (.new 46, 3) := by decide +kernel
theorem dX3_pointOf_10 : decode cX3_pointOf 10 = .ok (.dup, 1) := by decide +kernel
theorem dX3_pointOf_11 : decode cX3_pointOf 11 = .ok (.ldc 89, 2) := by decide +kernel
theorem dX3_pointOf_13 : decode cX3_pointOf 13 = .ok (.invokespecial 50, 3) := by decide +kernel
theorem dX3_pointOf_16 : decode cX3_pointOf 16 = .ok (.athrow, 1) := by decide +kernel
theorem dX3_pointOf_17 : decode cX3_pointOf 17 = .ok (.iload_n 2, 1) := by decide +kernel
theorem dX3_pointOf_18 : decode cX3_pointOf 18 = .ok (.iconst 0, 1) := by decide +kernel
theorem dX3_pointOf_19 : decode cX3_pointOf 19 = .ok (.iconst 2, 1) := by decide +kernel
theorem dX3_pointOf_20 : decode cX3_pointOf 20 = .ok (.invokestatic 53, 3) := by decide +kernel
theorem dX3_pointOf_23 : decode cX3_pointOf 23 = .ok (.ifCond .eq 13, 3) := by decide +kernel
theorem dX3_pointOf_26 : decode cX3_pointOf 26 = .ok (.new 57, 3) := by decide +kernel
theorem dX3_pointOf_29 : decode cX3_pointOf 29 = .ok (.dup, 1) := by decide +kernel
theorem dX3_pointOf_30 : decode cX3_pointOf 30 = .ok (.ldc 175, 2) := by decide +kernel
theorem dX3_pointOf_32 : decode cX3_pointOf 32 = .ok (.invokespecial 61, 3) := by decide +kernel
theorem dX3_pointOf_35 : decode cX3_pointOf 35 = .ok (.athrow, 1) := by decide +kernel
theorem dX3_pointOf_36 : decode cX3_pointOf 36 = .ok (.aload_n 0, 1) := by decide +kernel
theorem dX3_pointOf_37 : decode cX3_pointOf 37 = .ok (.iload_n 1, 1) := by decide +kernel
theorem dX3_pointOf_38 : decode cX3_pointOf 38 = .ok (.iload_n 2, 1) := by decide +kernel
theorem dX3_pointOf_39 : decode cX3_pointOf 39 = .ok (.invokevirtual 177, 3) := by decide +kernel
theorem dX3_pointOf_42 : decode cX3_pointOf 42 = .ok (.ireturn, 1) := by decide +kernel
set_option maxRecDepth 20000 in
theorem ggX3_count_X3_isOutside : GoodIn wsX3_count wsX3_isOutside := goodIn_r _ [6] (by decide +kernel) (by decide +kernel)
set_option maxRecDepth 20000 in
theorem gX3_count_X3_isOutside : GoodIn wsX3_count (va_wsS RX3 53 yX3_isOutside wsX3_isOutside) := goodIn_app (goodIn_of _ (by decide +kernel)) ggX3_count_X3_isOutside
set_option maxRecDepth 20000 in
theorem ggX3_count_X3_countNumber : GoodIn wsX3_count wsX3_countNumber := goodIn_r _ [10, 11, 12, 13, 14, 15, 16, 17, 18, 19, 20, 21, 22, 23, 24, 25, 26, 27, 5, 28, 29, 30, 31, 32, 33, 34, 35, 36, 37, 38, 39, 40, 41, 42, 43, 44, 45, 46, 47, 48, 49, 50, 51, 52, 53, 54, 55, 56, 57, 58, 59, 60, 61, 62, 63, 64, 65, 66, 67, 68, 69, 70, 71, 72, 73, 74, 75, 76, 77, 78, 79, 80, 81, 82, 83, 84, 85, 86, 87, 88, 89] (by decide +kernel) (by decide +kernel)
set_option maxRecDepth 20000 in
theorem gX3_count_X3_countNumber : GoodIn wsX3_count (wsV RX3 182 RX3 yX3_countNumber wsX3_countNumber) := goodIn_app (goodIn_of _ (by decide +kernel)) ggX3_count_X3_countNumber
theorem dX3_count_0 : decode cX3_count 0 = .ok (.iload_n 1, 1) := by decide +kernel
theorem dX3_count_1 : decode cX3_count 1 = .ok (.iconst 0, 1) := by decide +kernel
theorem dX3_count_2 : decode cX3_count 2 = .ok (.bipush 8, 2) := by decide +kernel
theorem dX3_count_4 : decode cX3_count 4 = .ok (.invokestatic 53, 3) := by decide +kernel
theorem dX3_count_7 : decode cX3_count 7 = .ok (.ifCond .eq 13, 3) := by decide +kernel
theorem dX3_count_10 : decode cX3_count 10 = .ok (.new 57, 3) := by decide +kernel
theorem dX3_count_13 : decode cX3_count 13 = .ok (.dup, 1) := by decide +kernel
theorem dX3_count_14 : decode cX3_count 14 = .ok (.ldc 180, 2) := by decide +kernel
theorem dX3_count_16 : decode cX3_count 16 = .ok (.invokespecial 61, 3) := by decide +kernel
theorem dX3_count_19 : decode cX3_count 19 = .ok (.athrow, 1) := by decide +kernel
theorem dX3_count_20 : decode cX3_count 20 = .ok (.aload_n 0, 1) := by decide +kernel
theorem dX3_count_21 : decode cX3_count 21 = .ok (.iload_n 1, 1) := by decide +kernel
theorem dX3_count_22 : decode cX3_count 22 = .ok (.invokevirtual 182, 3) := by decide +kernel
theorem dX3_count_25 : decode cX3_count 25 = .ok (.ireturn, 1) := by decide +kernel
set_option maxRecDepth 20000 in
theorem ggX3_findLost_X0_differenceAt : GoodIn wsX3_findLost wsX0_differenceAt := goodIn_r _ [5, 6, 7, 8, 9, 3, 10, 11, 12, 13, 14, 15, 16, 17, 18, 19, 20, 21, 22, 23, 24, 25, 26, 27, 28, 29, 30, 42, 43, 44, 45] (by decide +kernel) (by decide +kernel)
set_option maxRecDepth 20000 in
theorem gX3_findLost_X0_differenceAt_n185 : GoodIn wsX3_findLost (wsX0_differenceAt) := ggX3_findLost_X0_differenceAt
set_option maxRecDepth 20000 in
theorem ggX3_findLost_X3_isDifference : GoodIn wsX3_findLost wsX3_isDifference := goodIn_r _ [34, 1, 2, 3, 4, 5, 6, 7, 8, 9, 10, 11, 12, 13, 14, 15, 16, 17, 18, 19, 20, 21, 22, 23, 24, 25, 26, 27, 28, 29, 30, 35, 36, 37, 38, 39, 40, 41, 42, 43, 44, 45] (by decide +kernel) (by decide +kernel)
set_option maxRecDepth 20000 in
theorem gX3_findLost_X3_isDifference : GoodIn wsX3_findLost (wsV RX3 188 RX3 yX3_isDifference wsX3_isDifference) := goodIn_app (goodIn_of _ (by decide +kernel)) ggX3_findLost_X3_isDifference
theorem dX3_findLost_0 : decode cX3_findLost 0 = .ok (.aload_n 0, 1) := by decide +kernel
theorem dX3_findLost_1 : decode cX3_findLost 1 = .ok (.getfield 12, 3) := by decide +kernel
theorem dX3_findLost_4 : decode cX3_findLost 4 = .ok (.iconst 0, 1) := by decide +kernel
theorem dX3_findLost_5 : decode cX3_findLost 5 = .ok (.invokevirtual 185, 3) := by decide +kernel
theorem dX3_findLost_8 : decode cX3_findLost 8 = .ok (.istore_n 1, 1) := by decide +kernel
theorem dX3_findLost_9 : decode cX3_findLost 9 = .ok (.iload_n 1, 1) := by decide +kernel
theorem dX3_findLost_10 : decode cX3_findLost 10 = .ok (.ifCond .ne 5, 3) := by decide +kernel
theorem dX3_findLost_13 : decode cX3_findLost 13 = .ok (.iconst (-1), 1) := by decide +kernel
theorem dX3_findLost_14 : decode cX3_findLost 14 = .ok (.ireturn, 1) := by decide +kernel
theorem dX3_findLost_15 : decode cX3_findLost 15 = .ok (.iconst 0, 1) := by decide +kernel
theorem dX3_findLost_16 : decode cX3_findLost 16 = .ok (.istore_n 2, 1) := by decide +kernel
theorem dX3_findLost_17 : decode cX3_findLost 17 = .ok (.iload_n 2, 1) := by decide +kernel
theorem dX3_findLost_18 : decode cX3_findLost 18 = .ok (.bipush 8, 2) := by decide +kernel
theorem dX3_findLost_20 : decode cX3_findLost 20 = .ok (.if_icmp .ge 20, 3) := by decide +kernel
theorem dX3_findLost_23 : decode cX3_findLost 23 = .ok (.aload_n 0, 1) := by decide +kernel
theorem dX3_findLost_24 : decode cX3_findLost 24 = .ok (.iload_n 1, 1) := by decide +kernel
theorem dX3_findLost_25 : decode cX3_findLost 25 = .ok (.iload_n 2, 1) := by decide +kernel
theorem dX3_findLost_26 : decode cX3_findLost 26 = .ok (.invokevirtual 188, 3) := by decide +kernel
theorem dX3_findLost_29 : decode cX3_findLost 29 = .ok (.ifCond .eq 5, 3) := by decide +kernel
theorem dX3_findLost_32 : decode cX3_findLost 32 = .ok (.iload_n 2, 1) := by decide +kernel
theorem dX3_findLost_33 : decode cX3_findLost 33 = .ok (.ireturn, 1) := by decide +kernel
theorem dX3_findLost_34 : decode cX3_findLost 34 = .ok (.iinc 2 1, 3) := by decide +kernel
theorem dX3_findLost_37 : decode cX3_findLost 37 = .ok (.goto (-20), 3) := by decide +kernel
theorem dX3_findLost_40 : decode cX3_findLost 40 = .ok (.iconst (-1), 1) := by decide +kernel
theorem dX3_findLost_41 : decode cX3_findLost 41 = .ok (.ireturn, 1) := by decide +kernel
set_option maxRecDepth 20000 in
theorem ggX3_enough_X3_isOutside : GoodIn wsX3_enough wsX3_isOutside := goodIn_r _ [7] (by decide +kernel) (by decide +kernel)
set_option maxRecDepth 20000 in
theorem gX3_enough_X3_isOutside : GoodIn wsX3_enough (va_wsS RX3 53 yX3_isOutside wsX3_isOutside) := goodIn_app (goodIn_of _ (by decide +kernel)) ggX3_enough_X3_isOutside
set_option maxRecDepth 20000 in
theorem ggX3_enough_X3_fewestNumber : GoodIn wsX3_enough wsX3_fewestNumber := goodIn_r _ [11, 12, 13, 14, 15, 16, 17, 18, 19, 20, 21, 22, 23, 24, 25, 26, 27, 28, 29, 30, 6, 31, 32, 33, 34, 35, 36, 37, 38, 39, 40, 41, 42, 43, 44, 45, 46, 47, 48, 49] (by decide +kernel) (by decide +kernel)
set_option maxRecDepth 20000 in
theorem gX3_enough_X3_fewestNumber : GoodIn wsX3_enough (wsV RX3 195 RX3 yX3_fewestNumber wsX3_fewestNumber) := goodIn_app (goodIn_of _ (by decide +kernel)) ggX3_enough_X3_fewestNumber
theorem dX3_enough_0 : decode cX3_enough 0 = .ok (.iload_n 1, 1) := by decide +kernel
theorem dX3_enough_1 : decode cX3_enough 1 = .ok (.iconst 0, 1) := by decide +kernel
theorem dX3_enough_2 : decode cX3_enough 2 = .ok (.ldc 192, 2) := by decide +kernel
theorem dX3_enough_4 : decode cX3_enough 4 = .ok (.invokestatic 53, 3) := by decide +kernel
theorem dX3_enough_7 : decode cX3_enough 7 = .ok (.ifCond .eq 13, 3) := by decide +kernel
theorem dX3_enough_10 : decode cX3_enough 10 = .ok (.new 57, 3) := by decide +kernel
theorem dX3_enough_13 : decode cX3_enough 13 = .ok (.dup, 1) := by decide +kernel
theorem dX3_enough_14 : decode cX3_enough 14 = .ok (.ldc 193, 2) := by decide +kernel
theorem dX3_enough_16 : decode cX3_enough 16 = .ok (.invokespecial 61, 3) := by decide +kernel
theorem dX3_enough_19 : decode cX3_enough 19 = .ok (.athrow, 1) := by decide +kernel
theorem dX3_enough_20 : decode cX3_enough 20 = .ok (.iload_n 2, 1) := by decide +kernel
theorem dX3_enough_21 : decode cX3_enough 21 = .ok (.iconst 0, 1) := by decide +kernel
theorem dX3_enough_22 : decode cX3_enough 22 = .ok (.iconst 1, 1) := by decide +kernel
theorem dX3_enough_23 : decode cX3_enough 23 = .ok (.invokestatic 53, 3) := by decide +kernel
theorem dX3_enough_26 : decode cX3_enough 26 = .ok (.ifCond .eq 13, 3) := by decide +kernel
theorem dX3_enough_29 : decode cX3_enough 29 = .ok (.new 57, 3) := by decide +kernel
theorem dX3_enough_32 : decode cX3_enough 32 = .ok (.dup, 1) := by decide +kernel
theorem dX3_enough_33 : decode cX3_enough 33 = .ok (.ldc 170, 2) := by decide +kernel
theorem dX3_enough_35 : decode cX3_enough 35 = .ok (.invokespecial 61, 3) := by decide +kernel
theorem dX3_enough_38 : decode cX3_enough 38 = .ok (.athrow, 1) := by decide +kernel
theorem dX3_enough_39 : decode cX3_enough 39 = .ok (.aload_n 0, 1) := by decide +kernel
theorem dX3_enough_40 : decode cX3_enough 40 = .ok (.iload_n 1, 1) := by decide +kernel
theorem dX3_enough_41 : decode cX3_enough 41 = .ok (.iload_n 2, 1) := by decide +kernel
theorem dX3_enough_42 : decode cX3_enough 42 = .ok (.invokevirtual 195, 3) := by decide +kernel
theorem dX3_enough_45 : decode cX3_enough 45 = .ok (.ireturn, 1) := by decide +kernel
set_option maxRecDepth 20000 in
theorem ggX3_ifTurned_X3_isNoPlace : GoodIn wsX3_ifTurned wsX3_isNoPlace := goodIn_r _ [9, 10, 11, 8, 12] (by decide +kernel) (by decide +kernel)
set_option maxRecDepth 20000 in
theorem gX3_ifTurned_X3_isNoPlace : GoodIn wsX3_ifTurned (va_wsS RX3 42 yX3_isNoPlace wsX3_isNoPlace) := goodIn_app (goodIn_of _ (by decide +kernel)) ggX3_ifTurned_X3_isNoPlace
set_option maxRecDepth 20000 in
theorem ggX3_ifTurned_X0_traceAt : GoodIn wsX3_ifTurned wsX0_traceAt := goodIn_r _ [16, 17, 18, 19, 14, 20, 21, 22, 23, 24, 25, 26, 27, 8, 28, 29, 30, 31, 32, 33, 34, 35, 42, 43, 44, 45] (by decide +kernel) (by decide +kernel)
set_option maxRecDepth 20000 in
theorem gX3_ifTurned_X0_traceAt_n96 : GoodIn wsX3_ifTurned (wsX0_traceAt) := ggX3_ifTurned_X0_traceAt
theorem dX3_ifTurned_0 : decode cX3_ifTurned 0 = .ok (.iload_n 2, 1) := by decide +kernel
theorem dX3_ifTurned_1 : decode cX3_ifTurned 1 = .ok (.invokestatic 42, 3) := by decide +kernel
theorem dX3_ifTurned_4 : decode cX3_ifTurned 4 = .ok (.ifCond .eq 13, 3) := by decide +kernel
theorem dX3_ifTurned_7 : decode cX3_ifTurned 7 = .ok (.new 46, 3) := by decide +kernel
theorem dX3_ifTurned_10 : decode cX3_ifTurned 10 = .ok (.dup, 1) := by decide +kernel
theorem dX3_ifTurned_11 : decode cX3_ifTurned 11 = .ok (.ldc 89, 2) := by decide +kernel
theorem dX3_ifTurned_13 : decode cX3_ifTurned 13 = .ok (.invokespecial 50, 3) := by decide +kernel
theorem dX3_ifTurned_16 : decode cX3_ifTurned 16 = .ok (.athrow, 1) := by decide +kernel
theorem dX3_ifTurned_17 : decode cX3_ifTurned 17 = .ok (.iload_n 1, 1) := by decide +kernel
theorem dX3_ifTurned_18 : decode cX3_ifTurned 18 = .ok (.invokestatic 42, 3) := by decide +kernel
theorem dX3_ifTurned_21 : decode cX3_ifTurned 21 = .ok (.ifCond .eq 13, 3) := by decide +kernel
theorem dX3_ifTurned_24 : decode cX3_ifTurned 24 = .ok (.new 57, 3) := by decide +kernel
theorem dX3_ifTurned_27 : decode cX3_ifTurned 27 = .ok (.dup, 1) := by decide +kernel
theorem dX3_ifTurned_28 : decode cX3_ifTurned 28 = .ok (.ldc 75, 2) := by decide +kernel
theorem dX3_ifTurned_30 : decode cX3_ifTurned 30 = .ok (.invokespecial 61, 3) := by decide +kernel
theorem dX3_ifTurned_33 : decode cX3_ifTurned 33 = .ok (.athrow, 1) := by decide +kernel
theorem dX3_ifTurned_34 : decode cX3_ifTurned 34 = .ok (.aload_n 0, 1) := by decide +kernel
theorem dX3_ifTurned_35 : decode cX3_ifTurned 35 = .ok (.getfield 12, 3) := by decide +kernel
theorem dX3_ifTurned_38 : decode cX3_ifTurned 38 = .ok (.iload_n 2, 1) := by decide +kernel
theorem dX3_ifTurned_39 : decode cX3_ifTurned 39 = .ok (.iload_n 1, 1) := by decide +kernel
theorem dX3_ifTurned_40 : decode cX3_ifTurned 40 = .ok (.ixor, 1) := by decide +kernel
theorem dX3_ifTurned_41 : decode cX3_ifTurned 41 = .ok (.invokevirtual 96, 3) := by decide +kernel
theorem dX3_ifTurned_44 : decode cX3_ifTurned 44 = .ok (.ireturn, 1) := by decide +kernel
set_option maxRecDepth 20000 in
theorem ggX3_bestTurn_X3_differencesIfTurned : GoodIn wsX3_bestTurn wsX3_differencesIfTurned := goodIn_r _ [5, 6, 7, 8, 9, 10, 11, 12, 13, 14, 15, 16, 17, 18, 19, 20, 21, 22, 23, 24, 25, 4, 26, 27, 28, 29, 30, 31, 32, 33, 34, 35, 36, 37, 38, 39, 40, 41, 42, 43] (by decide +kernel) (by decide +kernel)
set_option maxRecDepth 20000 in
theorem gX3_bestTurn_X3_differencesIfTurned : GoodIn wsX3_bestTurn (wsV RX3 198 RX3 yX3_differencesIfTurned wsX3_differencesIfTurned) := goodIn_app (goodIn_of _ (by decide +kernel)) ggX3_bestTurn_X3_differencesIfTurned
theorem dX3_bestTurn_0 : decode cX3_bestTurn 0 = .ok (.iconst 0, 1) := by decide +kernel
theorem dX3_bestTurn_1 : decode cX3_bestTurn 1 = .ok (.istore_n 1, 1) := by decide +kernel
theorem dX3_bestTurn_2 : decode cX3_bestTurn 2 = .ok (.aload_n 0, 1) := by decide +kernel
theorem dX3_bestTurn_3 : decode cX3_bestTurn 3 = .ok (.iconst 0, 1) := by decide +kernel
theorem dX3_bestTurn_4 : decode cX3_bestTurn 4 = .ok (.invokevirtual 198, 3) := by decide +kernel
theorem dX3_bestTurn_7 : decode cX3_bestTurn 7 = .ok (.istore_n 2, 1) := by decide +kernel
theorem dX3_bestTurn_8 : decode cX3_bestTurn 8 = .ok (.iconst 1, 1) := by decide +kernel
theorem dX3_bestTurn_9 : decode cX3_bestTurn 9 = .ok (.istore_n 3, 1) := by decide +kernel
theorem dX3_bestTurn_10 : decode cX3_bestTurn 10 = .ok (.iload_n 3, 1) := by decide +kernel
theorem dX3_bestTurn_11 : decode cX3_bestTurn 11 = .ok (.bipush 8, 2) := by decide +kernel
theorem dX3_bestTurn_13 : decode cX3_bestTurn 13 = .ok (.if_icmp .ge 27, 3) := by decide +kernel
theorem dX3_bestTurn_16 : decode cX3_bestTurn 16 = .ok (.aload_n 0, 1) := by decide +kernel
theorem dX3_bestTurn_17 : decode cX3_bestTurn 17 = .ok (.iload_n 3, 1) := by decide +kernel
theorem dX3_bestTurn_18 : decode cX3_bestTurn 18 = .ok (.invokevirtual 198, 3) := by decide +kernel
theorem dX3_bestTurn_21 : decode cX3_bestTurn 21 = .ok (.istore 4, 2) := by decide +kernel
theorem dX3_bestTurn_23 : decode cX3_bestTurn 23 = .ok (.iload 4, 2) := by decide +kernel
theorem dX3_bestTurn_25 : decode cX3_bestTurn 25 = .ok (.iload_n 2, 1) := by decide +kernel
theorem dX3_bestTurn_26 : decode cX3_bestTurn 26 = .ok (.if_icmp .ge 8, 3) := by decide +kernel
theorem dX3_bestTurn_29 : decode cX3_bestTurn 29 = .ok (.iload 4, 2) := by decide +kernel
theorem dX3_bestTurn_31 : decode cX3_bestTurn 31 = .ok (.istore_n 2, 1) := by decide +kernel
theorem dX3_bestTurn_32 : decode cX3_bestTurn 32 = .ok (.iload_n 3, 1) := by decide +kernel
theorem dX3_bestTurn_33 : decode cX3_bestTurn 33 = .ok (.istore_n 1, 1) := by decide +kernel
theorem dX3_bestTurn_34 : decode cX3_bestTurn 34 = .ok (.iinc 3 1, 3) := by decide +kernel
theorem dX3_bestTurn_37 : decode cX3_bestTurn 37 = .ok (.goto (-27), 3) := by decide +kernel
theorem dX3_bestTurn_40 : decode cX3_bestTurn 40 = .ok (.iload_n 1, 1) := by decide +kernel
theorem dX3_bestTurn_41 : decode cX3_bestTurn 41 = .ok (.ireturn, 1) := by decide +kernel
set_option maxRecDepth 20000 in
theorem ggX3_mainShare_X0_drawnAmplitude : GoodIn wsX3_mainShare wsX0_drawnAmplitude := goodIn_r _ [9, 10, 11, 12, 13, 7, 14, 15, 22, 23, 24, 25] (by decide +kernel) (by decide +kernel)
set_option maxRecDepth 20000 in
theorem gX3_mainShare_X0_drawnAmplitude_n201 : GoodIn wsX3_mainShare (wsX0_drawnAmplitude) := ggX3_mainShare_X0_drawnAmplitude
theorem dX3_mainShare_0 : decode cX3_mainShare 0 = .ok (.iconst 0, 1) := by decide +kernel
theorem dX3_mainShare_1 : decode cX3_mainShare 1 = .ok (.istore_n 1, 1) := by decide +kernel
theorem dX3_mainShare_2 : decode cX3_mainShare 2 = .ok (.iconst 0, 1) := by decide +kernel
theorem dX3_mainShare_3 : decode cX3_mainShare 3 = .ok (.istore_n 2, 1) := by decide +kernel
theorem dX3_mainShare_4 : decode cX3_mainShare 4 = .ok (.iconst 0, 1) := by decide +kernel
theorem dX3_mainShare_5 : decode cX3_mainShare 5 = .ok (.istore_n 3, 1) := by decide +kernel
theorem dX3_mainShare_6 : decode cX3_mainShare 6 = .ok (.iload_n 3, 1) := by decide +kernel
theorem dX3_mainShare_7 : decode cX3_mainShare 7 = .ok (.bipush 8, 2) := by decide +kernel
theorem dX3_mainShare_9 : decode cX3_mainShare 9 = .ok (.if_icmp .ge 40, 3) := by decide +kernel
theorem dX3_mainShare_12 : decode cX3_mainShare 12 = .ok (.aload_n 0, 1) := by decide +kernel
theorem dX3_mainShare_13 : decode cX3_mainShare 13 = .ok (.getfield 12, 3) := by decide +kernel
theorem dX3_mainShare_16 : decode cX3_mainShare 16 = .ok (.iload_n 3, 1) := by decide +kernel
theorem dX3_mainShare_17 : decode cX3_mainShare 17 = .ok (.invokevirtual 201, 3) := by decide +kernel
theorem dX3_mainShare_20 : decode cX3_mainShare 20 = .ok (.aload_n 0, 1) := by decide +kernel
theorem dX3_mainShare_21 : decode cX3_mainShare 21 = .ok (.getfield 12, 3) := by decide +kernel
theorem dX3_mainShare_24 : decode cX3_mainShare 24 = .ok (.iload_n 3, 1) := by decide +kernel
theorem dX3_mainShare_25 : decode cX3_mainShare 25 = .ok (.invokevirtual 201, 3) := by decide +kernel
theorem dX3_mainShare_28 : decode cX3_mainShare 28 = .ok (.imul, 1) := by decide +kernel
theorem dX3_mainShare_29 : decode cX3_mainShare 29 = .ok (.istore 4, 2) := by decide +kernel
theorem dX3_mainShare_31 : decode cX3_mainShare 31 = .ok (.iload_n 1, 1) := by decide +kernel
theorem dX3_mainShare_32 : decode cX3_mainShare 32 = .ok (.iload 4, 2) := by decide +kernel
theorem dX3_mainShare_34 : decode cX3_mainShare 34 = .ok (.invokestatic 105, 3) := by decide +kernel
theorem dX3_mainShare_37 : decode cX3_mainShare 37 = .ok (.istore_n 1, 1) := by decide +kernel
theorem dX3_mainShare_38 : decode cX3_mainShare 38 = .ok (.iload_n 2, 1) := by decide +kernel
theorem dX3_mainShare_39 : decode cX3_mainShare 39 = .ok (.iload 4, 2) := by decide +kernel
theorem dX3_mainShare_41 : decode cX3_mainShare 41 = .ok (.iadd, 1) := by decide +kernel
theorem dX3_mainShare_42 : decode cX3_mainShare 42 = .ok (.istore_n 2, 1) := by decide +kernel
theorem dX3_mainShare_43 : decode cX3_mainShare 43 = .ok (.iinc 3 1, 3) := by decide +kernel
theorem dX3_mainShare_46 : decode cX3_mainShare 46 = .ok (.goto (-40), 3) := by decide +kernel
theorem dX3_mainShare_49 : decode cX3_mainShare 49 = .ok (.iload_n 2, 1) := by decide +kernel
theorem dX3_mainShare_50 : decode cX3_mainShare 50 = .ok (.ifCond .ne 7, 3) := by decide +kernel
theorem dX3_mainShare_53 : decode cX3_mainShare 53 = .ok (.dconst 0, 1) := by decide +kernel
theorem dX3_mainShare_54 : decode cX3_mainShare 54 = .ok (.goto 8, 3) := by decide +kernel
theorem dX3_mainShare_57 : decode cX3_mainShare 57 = .ok (.iload_n 1, 1) := by decide +kernel
theorem dX3_mainShare_58 : decode cX3_mainShare 58 = .ok (.i2d, 1) := by decide +kernel
theorem dX3_mainShare_59 : decode cX3_mainShare 59 = .ok (.iload_n 2, 1) := by decide +kernel
theorem dX3_mainShare_60 : decode cX3_mainShare 60 = .ok (.i2d, 1) := by decide +kernel
theorem dX3_mainShare_61 : decode cX3_mainShare 61 = .ok (.ddiv, 1) := by decide +kernel
theorem dX3_mainShare_62 : decode cX3_mainShare 62 = .ok (.dreturn, 1) := by decide +kernel
theorem dX3_isOutside_0 : decode cX3_isOutside 0 = .ok (.iload_n 0, 1) := by decide +kernel
theorem dX3_isOutside_1 : decode cX3_isOutside 1 = .ok (.iload_n 1, 1) := by decide +kernel
theorem dX3_isOutside_2 : decode cX3_isOutside 2 = .ok (.if_icmp .lt 8, 3) := by decide +kernel
theorem dX3_isOutside_5 : decode cX3_isOutside 5 = .ok (.iload_n 0, 1) := by decide +kernel
theorem dX3_isOutside_6 : decode cX3_isOutside 6 = .ok (.iload_n 2, 1) := by decide +kernel
theorem dX3_isOutside_7 : decode cX3_isOutside 7 = .ok (.if_icmp .le 7, 3) := by decide +kernel
theorem dX3_isOutside_10 : decode cX3_isOutside 10 = .ok (.iconst 1, 1) := by decide +kernel
theorem dX3_isOutside_11 : decode cX3_isOutside 11 = .ok (.goto 4, 3) := by decide +kernel
theorem dX3_isOutside_14 : decode cX3_isOutside 14 = .ok (.iconst 0, 1) := by decide +kernel
theorem dX3_isOutside_15 : decode cX3_isOutside 15 = .ok (.ireturn, 1) := by decide +kernel
set_option maxRecDepth 20000 in
theorem ggX3_isNoPlace_X3_isOutside : GoodIn wsX3_isNoPlace wsX3_isOutside := goodIn_r _ [4] (by decide +kernel) (by decide +kernel)
set_option maxRecDepth 20000 in
theorem gX3_isNoPlace_X3_isOutside : GoodIn wsX3_isNoPlace (va_wsS RX3 53 yX3_isOutside wsX3_isOutside) := goodIn_app (goodIn_of _ (by decide +kernel)) ggX3_isNoPlace_X3_isOutside
theorem dX3_isNoPlace_0 : decode cX3_isNoPlace 0 = .ok (.iload_n 0, 1) := by decide +kernel
theorem dX3_isNoPlace_1 : decode cX3_isNoPlace 1 = .ok (.iconst 0, 1) := by decide +kernel
theorem dX3_isNoPlace_2 : decode cX3_isNoPlace 2 = .ok (.bipush 7, 2) := by decide +kernel
theorem dX3_isNoPlace_4 : decode cX3_isNoPlace 4 = .ok (.invokestatic 53, 3) := by decide +kernel
theorem dX3_isNoPlace_7 : decode cX3_isNoPlace 7 = .ok (.ireturn, 1) := by decide +kernel
set_option maxRecDepth 20000 in
theorem ggX3_wave_J6_bitCount_0f7a4 : GoodIn wsX3_wave wsJ6_bitCount_0f7a4 := goodIn_r _ [4, 5, 6, 7] (by decide +kernel) (by decide +kernel)
set_option maxRecDepth 20000 in
theorem gX3_wave_J6_bitCount_0f7a4 : GoodIn wsX3_wave (va_wsS RX3 240 yJ6_bitCount_0f7a4 wsJ6_bitCount_0f7a4) := goodIn_app (goodIn_of _ (by decide +kernel)) ggX3_wave_J6_bitCount_0f7a4
theorem dX3_wave_0 : decode cX3_wave 0 = .ok (.iload_n 0, 1) := by decide +kernel
theorem dX3_wave_1 : decode cX3_wave 1 = .ok (.iload_n 1, 1) := by decide +kernel
theorem dX3_wave_2 : decode cX3_wave 2 = .ok (.iand, 1) := by decide +kernel
theorem dX3_wave_3 : decode cX3_wave 3 = .ok (.invokestatic 240, 3) := by decide +kernel
theorem dX3_wave_6 : decode cX3_wave 6 = .ok (.iconst 1, 1) := by decide +kernel
theorem dX3_wave_7 : decode cX3_wave 7 = .ok (.iand, 1) := by decide +kernel
theorem dX3_wave_8 : decode cX3_wave 8 = .ok (.ifCond .ne 7, 3) := by decide +kernel
theorem dX3_wave_11 : decode cX3_wave 11 = .ok (.iconst 1, 1) := by decide +kernel
theorem dX3_wave_12 : decode cX3_wave 12 = .ok (.goto 4, 3) := by decide +kernel
theorem dX3_wave_15 : decode cX3_wave 15 = .ok (.iconst (-1), 1) := by decide +kernel
theorem dX3_wave_16 : decode cX3_wave 16 = .ok (.ireturn, 1) := by decide +kernel
set_option maxRecDepth 20000 in
theorem ggX3_wheelNumber_X0_isLost : GoodIn wsX3_wheelNumber wsX0_isLost := goodIn_r _ [5, 6, 35, 36, 37, 38] (by decide +kernel) (by decide +kernel)
set_option maxRecDepth 20000 in
theorem gX3_wheelNumber_X0_isLost_n72 : GoodIn wsX3_wheelNumber (wsX0_isLost) := ggX3_wheelNumber_X0_isLost
set_option maxRecDepth 20000 in
theorem ggX3_wheelNumber_X0_patternAmplitude : GoodIn wsX3_wheelNumber wsX0_patternAmplitude := goodIn_r _ [9, 10, 11, 12, 13, 14, 15, 16, 17, 18, 19, 20, 21, 22, 23, 24, 35, 36, 37, 38] (by decide +kernel) (by decide +kernel)
set_option maxRecDepth 20000 in
theorem gX3_wheelNumber_X0_patternAmplitude_n99 : GoodIn wsX3_wheelNumber (wsX0_patternAmplitude) := ggX3_wheelNumber_X0_patternAmplitude
set_option maxRecDepth 20000 in
theorem ggX3_wheelNumber_X3_changesOfWave : GoodIn wsX3_wheelNumber wsX3_changesOfWave := goodIn_r _ [27, 28, 11, 12, 13, 14, 15, 16, 17, 18, 19, 20] (by decide +kernel) (by decide +kernel)
set_option maxRecDepth 20000 in
theorem gX3_wheelNumber_X3_changesOfWave : GoodIn wsX3_wheelNumber (va_wsS RX3 245 yX3_changesOfWave wsX3_changesOfWave) := goodIn_app (goodIn_of _ (by decide +kernel)) ggX3_wheelNumber_X3_changesOfWave
theorem dX3_wheelNumber_0 : decode cX3_wheelNumber 0 = .ok (.iload_n 2, 1) := by decide +kernel
theorem dX3_wheelNumber_1 : decode cX3_wheelNumber 1 = .ok (.tableswitch 63 0 2 #[27, 37, 54], 27) := by decide +kernel
theorem dX3_wheelNumber_28 : decode cX3_wheelNumber 28 = .ok (.aload_n 0, 1) := by decide +kernel
theorem dX3_wheelNumber_29 : decode cX3_wheelNumber 29 = .ok (.getfield 12, 3) := by decide +kernel
theorem dX3_wheelNumber_32 : decode cX3_wheelNumber 32 = .ok (.getfield 66, 3) := by decide +kernel
theorem dX3_wheelNumber_35 : decode cX3_wheelNumber 35 = .ok (.iload_n 1, 1) := by decide +kernel
theorem dX3_wheelNumber_36 : decode cX3_wheelNumber 36 = .ok (.iaload, 1) := by decide +kernel
theorem dX3_wheelNumber_37 : decode cX3_wheelNumber 37 = .ok (.ireturn, 1) := by decide +kernel
theorem dX3_wheelNumber_38 : decode cX3_wheelNumber 38 = .ok (.aload_n 0, 1) := by decide +kernel
theorem dX3_wheelNumber_39 : decode cX3_wheelNumber 39 = .ok (.getfield 12, 3) := by decide +kernel
theorem dX3_wheelNumber_42 : decode cX3_wheelNumber 42 = .ok (.iload_n 1, 1) := by decide +kernel
theorem dX3_wheelNumber_43 : decode cX3_wheelNumber 43 = .ok (.invokevirtual 72, 3) := by decide +kernel
theorem dX3_wheelNumber_46 : decode cX3_wheelNumber 46 = .ok (.ifCond .eq 7, 3) := by decide +kernel
theorem dX3_wheelNumber_49 : decode cX3_wheelNumber 49 = .ok (.iconst 1, 1) := by decide +kernel
theorem dX3_wheelNumber_50 : decode cX3_wheelNumber 50 = .ok (.goto 4, 3) := by decide +kernel
theorem dX3_wheelNumber_53 : decode cX3_wheelNumber 53 = .ok (.iconst 0, 1) := by decide +kernel
theorem dX3_wheelNumber_54 : decode cX3_wheelNumber 54 = .ok (.ireturn, 1) := by decide +kernel
theorem dX3_wheelNumber_55 : decode cX3_wheelNumber 55 = .ok (.aload_n 0, 1) := by decide +kernel
theorem dX3_wheelNumber_56 : decode cX3_wheelNumber 56 = .ok (.getfield 12, 3) := by decide +kernel
theorem dX3_wheelNumber_59 : decode cX3_wheelNumber 59 = .ok (.iload_n 1, 1) := by decide +kernel
theorem dX3_wheelNumber_60 : decode cX3_wheelNumber 60 = .ok (.invokevirtual 99, 3) := by decide +kernel
theorem dX3_wheelNumber_63 : decode cX3_wheelNumber 63 = .ok (.ireturn, 1) := by decide +kernel
theorem dX3_wheelNumber_64 : decode cX3_wheelNumber 64 = .ok (.iload_n 1, 1) := by decide +kernel
theorem dX3_wheelNumber_65 : decode cX3_wheelNumber 65 = .ok (.invokestatic 245, 3) := by decide +kernel
theorem dX3_wheelNumber_68 : decode cX3_wheelNumber 68 = .ok (.ireturn, 1) := by decide +kernel
set_option maxRecDepth 20000 in
theorem ggX3_changesOfWave_X3_wave : GoodIn wsX3_changesOfWave wsX3_wave := goodIn_r _ [4, 5, 6, 7, 8, 9, 10, 11] (by decide +kernel) (by decide +kernel)
set_option maxRecDepth 20000 in
theorem gX3_changesOfWave_X3_wave : GoodIn wsX3_changesOfWave (va_wsS RX3 77 yX3_wave wsX3_wave) := goodIn_app (goodIn_of _ (by decide +kernel)) ggX3_changesOfWave_X3_wave
theorem dX3_changesOfWave_0 : decode cX3_changesOfWave 0 = .ok (.iconst 0, 1) := by decide +kernel
theorem dX3_changesOfWave_1 : decode cX3_changesOfWave 1 = .ok (.istore_n 1, 1) := by decide +kernel
theorem dX3_changesOfWave_2 : decode cX3_changesOfWave 2 = .ok (.iconst 0, 1) := by decide +kernel
theorem dX3_changesOfWave_3 : decode cX3_changesOfWave 3 = .ok (.istore_n 2, 1) := by decide +kernel
theorem dX3_changesOfWave_4 : decode cX3_changesOfWave 4 = .ok (.iload_n 2, 1) := by decide +kernel
theorem dX3_changesOfWave_5 : decode cX3_changesOfWave 5 = .ok (.bipush 7, 2) := by decide +kernel
theorem dX3_changesOfWave_7 : decode cX3_changesOfWave 7 = .ok (.if_icmp .ge 27, 3) := by decide +kernel
theorem dX3_changesOfWave_10 : decode cX3_changesOfWave 10 = .ok (.iload_n 0, 1) := by decide +kernel
theorem dX3_changesOfWave_11 : decode cX3_changesOfWave 11 = .ok (.iload_n 2, 1) := by decide +kernel
theorem dX3_changesOfWave_12 : decode cX3_changesOfWave 12 = .ok (.invokestatic 77, 3) := by decide +kernel
theorem dX3_changesOfWave_15 : decode cX3_changesOfWave 15 = .ok (.iload_n 0, 1) := by decide +kernel
theorem dX3_changesOfWave_16 : decode cX3_changesOfWave 16 = .ok (.iload_n 2, 1) := by decide +kernel
theorem dX3_changesOfWave_17 : decode cX3_changesOfWave 17 = .ok (.iconst 1, 1) := by decide +kernel
theorem dX3_changesOfWave_18 : decode cX3_changesOfWave 18 = .ok (.iadd, 1) := by decide +kernel
theorem dX3_changesOfWave_19 : decode cX3_changesOfWave 19 = .ok (.invokestatic 77, 3) := by decide +kernel
theorem dX3_changesOfWave_22 : decode cX3_changesOfWave 22 = .ok (.if_icmp .eq 6, 3) := by decide +kernel
theorem dX3_changesOfWave_25 : decode cX3_changesOfWave 25 = .ok (.iinc 1 1, 3) := by decide +kernel
theorem dX3_changesOfWave_28 : decode cX3_changesOfWave 28 = .ok (.iinc 2 1, 3) := by decide +kernel
theorem dX3_changesOfWave_31 : decode cX3_changesOfWave 31 = .ok (.goto (-27), 3) := by decide +kernel
theorem dX3_changesOfWave_34 : decode cX3_changesOfWave 34 = .ok (.iload_n 1, 1) := by decide +kernel
theorem dX3_changesOfWave_35 : decode cX3_changesOfWave 35 = .ok (.ireturn, 1) := by decide +kernel
set_option maxRecDepth 20000 in
theorem ggX3_traceNumber_X0_traceAt : GoodIn wsX3_traceNumber wsX0_traceAt := goodIn_r _ [6, 7, 8, 9, 4, 10, 11, 12, 13, 14, 15, 16, 17, 18, 19, 20, 21, 22, 23, 24, 25, 26, 37, 38, 39, 40] (by decide +kernel) (by decide +kernel)
set_option maxRecDepth 20000 in
theorem gX3_traceNumber_X0_traceAt_n96 : GoodIn wsX3_traceNumber (wsX0_traceAt) := ggX3_traceNumber_X0_traceAt
set_option maxRecDepth 20000 in
theorem ggX3_traceNumber_X0_drawnAmplitude : GoodIn wsX3_traceNumber wsX0_drawnAmplitude := goodIn_r _ [10, 11, 12, 13, 14, 4, 15, 16, 37, 38, 39, 40] (by decide +kernel) (by decide +kernel)
set_option maxRecDepth 20000 in
theorem gX3_traceNumber_X0_drawnAmplitude_n201 : GoodIn wsX3_traceNumber (wsX0_drawnAmplitude) := ggX3_traceNumber_X0_drawnAmplitude
set_option maxRecDepth 20000 in
theorem ggX3_traceNumber_X3_addAndSubtractHalves : GoodIn wsX3_traceNumber wsX3_addAndSubtractHalves := goodIn_r _ [30, 2, 31, 32, 33, 34, 35, 36] (by decide +kernel) (by decide +kernel)
set_option maxRecDepth 20000 in
theorem gX3_traceNumber_X3_addAndSubtractHalves : GoodIn wsX3_traceNumber (wsV RX3 248 RX3 yX3_addAndSubtractHalves wsX3_addAndSubtractHalves) := goodIn_app (goodIn_of _ (by decide +kernel)) ggX3_traceNumber_X3_addAndSubtractHalves
theorem dX3_traceNumber_0 : decode cX3_traceNumber 0 = .ok (.iload_n 2, 1) := by decide +kernel
theorem dX3_traceNumber_1 : decode cX3_traceNumber 1 = .ok (.ifCond .ne 12, 3) := by decide +kernel
theorem dX3_traceNumber_4 : decode cX3_traceNumber 4 = .ok (.aload_n 0, 1) := by decide +kernel
theorem dX3_traceNumber_5 : decode cX3_traceNumber 5 = .ok (.getfield 12, 3) := by decide +kernel
theorem dX3_traceNumber_8 : decode cX3_traceNumber 8 = .ok (.iload_n 1, 1) := by decide +kernel
theorem dX3_traceNumber_9 : decode cX3_traceNumber 9 = .ok (.invokevirtual 96, 3) := by decide +kernel
theorem dX3_traceNumber_12 : decode cX3_traceNumber 12 = .ok (.ireturn, 1) := by decide +kernel
theorem dX3_traceNumber_13 : decode cX3_traceNumber 13 = .ok (.iconst 0, 1) := by decide +kernel
theorem dX3_traceNumber_14 : decode cX3_traceNumber 14 = .ok (.istore_n 3, 1) := by decide +kernel
theorem dX3_traceNumber_15 : decode cX3_traceNumber 15 = .ok (.iload_n 3, 1) := by decide +kernel
theorem dX3_traceNumber_16 : decode cX3_traceNumber 16 = .ok (.bipush 8, 2) := by decide +kernel
theorem dX3_traceNumber_18 : decode cX3_traceNumber 18 = .ok (.if_icmp .ge 23, 3) := by decide +kernel
theorem dX3_traceNumber_21 : decode cX3_traceNumber 21 = .ok (.aload_n 0, 1) := by decide +kernel
theorem dX3_traceNumber_22 : decode cX3_traceNumber 22 = .ok (.getfield 38, 3) := by decide +kernel
theorem dX3_traceNumber_25 : decode cX3_traceNumber 25 = .ok (.iload_n 3, 1) := by decide +kernel
theorem dX3_traceNumber_26 : decode cX3_traceNumber 26 = .ok (.aload_n 0, 1) := by decide +kernel
theorem dX3_traceNumber_27 : decode cX3_traceNumber 27 = .ok (.getfield 12, 3) := by decide +kernel
theorem dX3_traceNumber_30 : decode cX3_traceNumber 30 = .ok (.iload_n 3, 1) := by decide +kernel
theorem dX3_traceNumber_31 : decode cX3_traceNumber 31 = .ok (.invokevirtual 201, 3) := by decide +kernel
theorem dX3_traceNumber_34 : decode cX3_traceNumber 34 = .ok (.iastore, 1) := by decide +kernel
theorem dX3_traceNumber_35 : decode cX3_traceNumber 35 = .ok (.iinc 3 1, 3) := by decide +kernel
theorem dX3_traceNumber_38 : decode cX3_traceNumber 38 = .ok (.goto (-23), 3) := by decide +kernel
theorem dX3_traceNumber_41 : decode cX3_traceNumber 41 = .ok (.aload_n 0, 1) := by decide +kernel
theorem dX3_traceNumber_42 : decode cX3_traceNumber 42 = .ok (.invokevirtual 248, 3) := by decide +kernel
theorem dX3_traceNumber_45 : decode cX3_traceNumber 45 = .ok (.aload_n 0, 1) := by decide +kernel
theorem dX3_traceNumber_46 : decode cX3_traceNumber 46 = .ok (.getfield 38, 3) := by decide +kernel
theorem dX3_traceNumber_49 : decode cX3_traceNumber 49 = .ok (.iload_n 1, 1) := by decide +kernel
theorem dX3_traceNumber_50 : decode cX3_traceNumber 50 = .ok (.iaload, 1) := by decide +kernel
theorem dX3_traceNumber_51 : decode cX3_traceNumber 51 = .ok (.ireturn, 1) := by decide +kernel
theorem dX3_addAndSubtractHalves_0 : decode cX3_addAndSubtractHalves 0 = .ok (.iconst 4, 1) := by decide +kernel
theorem dX3_addAndSubtractHalves_1 : decode cX3_addAndSubtractHalves 1 = .ok (.istore_n 1, 1) := by decide +kernel
theorem dX3_addAndSubtractHalves_2 : decode cX3_addAndSubtractHalves 2 = .ok (.iload_n 1, 1) := by decide +kernel
theorem dX3_addAndSubtractHalves_3 : decode cX3_addAndSubtractHalves 3 = .ok (.ifCond .le 71, 3) := by decide +kernel
theorem dX3_addAndSubtractHalves_6 : decode cX3_addAndSubtractHalves 6 = .ok (.iconst 0, 1) := by decide +kernel
theorem dX3_addAndSubtractHalves_7 : decode cX3_addAndSubtractHalves 7 = .ok (.istore_n 2, 1) := by decide +kernel
theorem dX3_addAndSubtractHalves_8 : decode cX3_addAndSubtractHalves 8 = .ok (.iload_n 2, 1) := by decide +kernel
theorem dX3_addAndSubtractHalves_9 : decode cX3_addAndSubtractHalves 9 = .ok (.iload_n 1, 1) := by decide +kernel
theorem dX3_addAndSubtractHalves_10 : decode cX3_addAndSubtractHalves 10 = .ok (.iadd, 1) := by decide +kernel
theorem dX3_addAndSubtractHalves_11 : decode cX3_addAndSubtractHalves 11 = .ok (.bipush 8, 2) := by decide +kernel
theorem dX3_addAndSubtractHalves_13 : decode cX3_addAndSubtractHalves 13 = .ok (.if_icmp .ge 54, 3) := by decide +kernel
theorem dX3_addAndSubtractHalves_16 : decode cX3_addAndSubtractHalves 16 = .ok (.iload_n 2, 1) := by decide +kernel
theorem dX3_addAndSubtractHalves_17 : decode cX3_addAndSubtractHalves 17 = .ok (.iload_n 1, 1) := by decide +kernel
theorem dX3_addAndSubtractHalves_18 : decode cX3_addAndSubtractHalves 18 = .ok (.iand, 1) := by decide +kernel
theorem dX3_addAndSubtractHalves_19 : decode cX3_addAndSubtractHalves 19 = .ok (.ifCond .ne 42, 3) := by decide +kernel
theorem dX3_addAndSubtractHalves_22 : decode cX3_addAndSubtractHalves 22 = .ok (.aload_n 0, 1) := by decide +kernel
theorem dX3_addAndSubtractHalves_23 : decode cX3_addAndSubtractHalves 23 = .ok (.getfield 38, 3) := by decide +kernel
theorem dX3_addAndSubtractHalves_26 : decode cX3_addAndSubtractHalves 26 = .ok (.iload_n 2, 1) := by decide +kernel
theorem dX3_addAndSubtractHalves_27 : decode cX3_addAndSubtractHalves 27 = .ok (.iaload, 1) := by decide +kernel
theorem dX3_addAndSubtractHalves_28 : decode cX3_addAndSubtractHalves 28 = .ok (.istore_n 3, 1) := by decide +kernel
theorem dX3_addAndSubtractHalves_29 : decode cX3_addAndSubtractHalves 29 = .ok (.aload_n 0, 1) := by decide +kernel
theorem dX3_addAndSubtractHalves_30 : decode cX3_addAndSubtractHalves 30 = .ok (.getfield 38, 3) := by decide +kernel
theorem dX3_addAndSubtractHalves_33 : decode cX3_addAndSubtractHalves 33 = .ok (.iload_n 2, 1) := by decide +kernel
theorem dX3_addAndSubtractHalves_34 : decode cX3_addAndSubtractHalves 34 = .ok (.iload_n 1, 1) := by decide +kernel
theorem dX3_addAndSubtractHalves_35 : decode cX3_addAndSubtractHalves 35 = .ok (.iadd, 1) := by decide +kernel
theorem dX3_addAndSubtractHalves_36 : decode cX3_addAndSubtractHalves 36 = .ok (.iaload, 1) := by decide +kernel
theorem dX3_addAndSubtractHalves_37 : decode cX3_addAndSubtractHalves 37 = .ok (.istore 4, 2) := by decide +kernel
theorem dX3_addAndSubtractHalves_39 : decode cX3_addAndSubtractHalves 39 = .ok (.aload_n 0, 1) := by decide +kernel
theorem dX3_addAndSubtractHalves_40 : decode cX3_addAndSubtractHalves 40 = .ok (.getfield 38, 3) := by decide +kernel
theorem dX3_addAndSubtractHalves_43 : decode cX3_addAndSubtractHalves 43 = .ok (.iload_n 2, 1) := by decide +kernel
theorem dX3_addAndSubtractHalves_44 : decode cX3_addAndSubtractHalves 44 = .ok (.iload_n 3, 1) := by decide +kernel
theorem dX3_addAndSubtractHalves_45 : decode cX3_addAndSubtractHalves 45 = .ok (.iload 4, 2) := by decide +kernel
theorem dX3_addAndSubtractHalves_47 : decode cX3_addAndSubtractHalves 47 = .ok (.iadd, 1) := by decide +kernel
theorem dX3_addAndSubtractHalves_48 : decode cX3_addAndSubtractHalves 48 = .ok (.iastore, 1) := by decide +kernel
theorem dX3_addAndSubtractHalves_49 : decode cX3_addAndSubtractHalves 49 = .ok (.aload_n 0, 1) := by decide +kernel
theorem dX3_addAndSubtractHalves_50 : decode cX3_addAndSubtractHalves 50 = .ok (.getfield 38, 3) := by decide +kernel
theorem dX3_addAndSubtractHalves_53 : decode cX3_addAndSubtractHalves 53 = .ok (.iload_n 2, 1) := by decide +kernel
theorem dX3_addAndSubtractHalves_54 : decode cX3_addAndSubtractHalves 54 = .ok (.iload_n 1, 1) := by decide +kernel
theorem dX3_addAndSubtractHalves_55 : decode cX3_addAndSubtractHalves 55 = .ok (.iadd, 1) := by decide +kernel
theorem dX3_addAndSubtractHalves_56 : decode cX3_addAndSubtractHalves 56 = .ok (.iload_n 3, 1) := by decide +kernel
theorem dX3_addAndSubtractHalves_57 : decode cX3_addAndSubtractHalves 57 = .ok (.iload 4, 2) := by decide +kernel
theorem dX3_addAndSubtractHalves_59 : decode cX3_addAndSubtractHalves 59 = .ok (.isub, 1) := by decide +kernel
theorem dX3_addAndSubtractHalves_60 : decode cX3_addAndSubtractHalves 60 = .ok (.iastore, 1) := by decide +kernel
theorem dX3_addAndSubtractHalves_61 : decode cX3_addAndSubtractHalves 61 = .ok (.iinc 2 1, 3) := by decide +kernel
theorem dX3_addAndSubtractHalves_64 : decode cX3_addAndSubtractHalves 64 = .ok (.goto (-56), 3) := by decide +kernel
theorem dX3_addAndSubtractHalves_67 : decode cX3_addAndSubtractHalves 67 = .ok (.iload_n 1, 1) := by decide +kernel
theorem dX3_addAndSubtractHalves_68 : decode cX3_addAndSubtractHalves 68 = .ok (.iconst 2, 1) := by decide +kernel
theorem dX3_addAndSubtractHalves_69 : decode cX3_addAndSubtractHalves 69 = .ok (.idiv, 1) := by decide +kernel
theorem dX3_addAndSubtractHalves_70 : decode cX3_addAndSubtractHalves 70 = .ok (.istore_n 1, 1) := by decide +kernel
theorem dX3_addAndSubtractHalves_71 : decode cX3_addAndSubtractHalves 71 = .ok (.goto (-69), 3) := by decide +kernel
theorem dX3_addAndSubtractHalves_74 : decode cX3_addAndSubtractHalves 74 = .ok (.return_, 1) := by decide +kernel
set_option maxRecDepth 20000 in
theorem ggX3_pointNumber_X0_differenceAt : GoodIn wsX3_pointNumber wsX0_differenceAt := goodIn_r _ [5, 6, 7, 8, 9, 3, 10, 11, 12, 13, 14, 15, 16, 17, 18, 19, 20, 21, 22, 23, 24, 25, 26, 27, 28, 29, 30, 40, 41, 42, 43] (by decide +kernel) (by decide +kernel)
set_option maxRecDepth 20000 in
theorem gX3_pointNumber_X0_differenceAt_n185 : GoodIn wsX3_pointNumber (wsX0_differenceAt) := ggX3_pointNumber_X0_differenceAt
set_option maxRecDepth 20000 in
theorem ggX3_pointNumber_X0_jumpAt : GoodIn wsX3_pointNumber wsX0_jumpAt := goodIn_r _ [33, 7, 8, 9, 3, 10, 11, 12, 13, 14, 15, 16, 17, 18, 19, 20, 21, 22, 23, 24, 25, 26, 27, 28, 29, 30, 40, 41, 42, 43] (by decide +kernel) (by decide +kernel)
set_option maxRecDepth 20000 in
theorem gX3_pointNumber_X0_jumpAt_n251 : GoodIn wsX3_pointNumber (wsX0_jumpAt) := ggX3_pointNumber_X0_jumpAt
theorem dX3_pointNumber_0 : decode cX3_pointNumber 0 = .ok (.iload_n 2, 1) := by decide +kernel
theorem dX3_pointNumber_1 : decode cX3_pointNumber 1 = .ok (.lookupswitch 46 #[(0, 27), (1, 37)], 27) := by decide +kernel
theorem dX3_pointNumber_28 : decode cX3_pointNumber 28 = .ok (.aload_n 0, 1) := by decide +kernel
theorem dX3_pointNumber_29 : decode cX3_pointNumber 29 = .ok (.getfield 12, 3) := by decide +kernel
theorem dX3_pointNumber_32 : decode cX3_pointNumber 32 = .ok (.getfield 93, 3) := by decide +kernel
theorem dX3_pointNumber_35 : decode cX3_pointNumber 35 = .ok (.iload_n 1, 1) := by decide +kernel
theorem dX3_pointNumber_36 : decode cX3_pointNumber 36 = .ok (.iaload, 1) := by decide +kernel
theorem dX3_pointNumber_37 : decode cX3_pointNumber 37 = .ok (.ireturn, 1) := by decide +kernel
theorem dX3_pointNumber_38 : decode cX3_pointNumber 38 = .ok (.aload_n 0, 1) := by decide +kernel
theorem dX3_pointNumber_39 : decode cX3_pointNumber 39 = .ok (.getfield 12, 3) := by decide +kernel
theorem dX3_pointNumber_42 : decode cX3_pointNumber 42 = .ok (.iload_n 1, 1) := by decide +kernel
theorem dX3_pointNumber_43 : decode cX3_pointNumber 43 = .ok (.invokevirtual 185, 3) := by decide +kernel
theorem dX3_pointNumber_46 : decode cX3_pointNumber 46 = .ok (.ireturn, 1) := by decide +kernel
theorem dX3_pointNumber_47 : decode cX3_pointNumber 47 = .ok (.aload_n 0, 1) := by decide +kernel
theorem dX3_pointNumber_48 : decode cX3_pointNumber 48 = .ok (.getfield 12, 3) := by decide +kernel
theorem dX3_pointNumber_51 : decode cX3_pointNumber 51 = .ok (.iload_n 1, 1) := by decide +kernel
theorem dX3_pointNumber_52 : decode cX3_pointNumber 52 = .ok (.invokevirtual 251, 3) := by decide +kernel
theorem dX3_pointNumber_55 : decode cX3_pointNumber 55 = .ok (.ireturn, 1) := by decide +kernel
set_option maxRecDepth 20000 in
theorem ggX3_countNumber_X0_drawingWheels : GoodIn wsX3_countNumber wsX0_drawingWheels := goodIn_r _ [6, 7, 74, 75, 76, 77] (by decide +kernel) (by decide +kernel)
set_option maxRecDepth 20000 in
theorem gX3_countNumber_X0_drawingWheels_n144 : GoodIn wsX3_countNumber (wsX0_drawingWheels) := ggX3_countNumber_X0_drawingWheels
set_option maxRecDepth 20000 in
theorem ggX3_countNumber_J6_bitCount_0f7a4 : GoodIn wsX3_countNumber wsJ6_bitCount_0f7a4 := goodIn_r _ [11, 12, 13, 14] (by decide +kernel) (by decide +kernel)
set_option maxRecDepth 20000 in
theorem gX3_countNumber_J6_bitCount_0f7a4 : GoodIn wsX3_countNumber (va_wsS RX3 240 yJ6_bitCount_0f7a4 wsJ6_bitCount_0f7a4) := goodIn_app (goodIn_of _ (by decide +kernel)) ggX3_countNumber_J6_bitCount_0f7a4
set_option maxRecDepth 20000 in
theorem ggX3_countNumber_X3_greatestTrace : GoodIn wsX3_countNumber wsX3_greatestTrace := goodIn_r _ [19, 1, 20, 21, 22, 23, 24, 4, 25, 26, 27, 28, 29, 30, 7, 31, 32, 33, 34, 35, 36, 18, 37, 8, 9, 10, 11, 12, 13, 14, 68, 69, 70, 71, 72, 73, 74, 75, 76, 77] (by decide +kernel) (by decide +kernel)
set_option maxRecDepth 20000 in
theorem gX3_countNumber_X3_greatestTrace : GoodIn wsX3_countNumber (wsV RX3 254 RX3 yX3_greatestTrace wsX3_greatestTrace) := goodIn_app (goodIn_of _ (by decide +kernel)) ggX3_countNumber_X3_greatestTrace
set_option maxRecDepth 20000 in
theorem ggX3_countNumber_X3_leastTrace : GoodIn wsX3_countNumber wsX3_leastTrace := goodIn_r _ [41, 1, 42, 43, 22, 44, 24, 4, 25, 26, 27, 28, 29, 30, 7, 31, 32, 33, 34, 35, 36, 18, 37, 8, 9, 10, 11, 12, 13, 14, 68, 69, 70, 71, 72, 73, 74, 75, 76, 77] (by decide +kernel) (by decide +kernel)
set_option maxRecDepth 20000 in
theorem gX3_countNumber_X3_leastTrace : GoodIn wsX3_countNumber (wsV RX3 257 RX3 yX3_leastTrace wsX3_leastTrace) := goodIn_app (goodIn_of _ (by decide +kernel)) ggX3_countNumber_X3_leastTrace
set_option maxRecDepth 20000 in
theorem ggX3_countNumber_X3_greatestDifference : GoodIn wsX3_countNumber wsX3_greatestDifference := goodIn_r _ [48, 1, 49, 50, 22, 51, 20, 21, 23, 52, 4, 53, 54, 55, 56, 24, 25, 26, 27, 28, 29, 30, 7, 31, 32, 33, 34, 35, 36, 18, 37, 8, 9, 10, 11, 12, 13, 14, 68, 69, 70, 71, 72, 73, 74, 75, 76, 77] (by decide +kernel) (by decide +kernel)
set_option maxRecDepth 20000 in
theorem gX3_countNumber_X3_greatestDifference : GoodIn wsX3_countNumber (wsV RX3 260 RX3 yX3_greatestDifference wsX3_greatestDifference) := goodIn_app (goodIn_of _ (by decide +kernel)) ggX3_countNumber_X3_greatestDifference
set_option maxRecDepth 20000 in
theorem ggX3_countNumber_X3_greatestJump : GoodIn wsX3_countNumber wsX3_greatestJump := goodIn_r _ [60, 1, 49, 50, 22, 51, 20, 21, 23, 61, 4, 62, 63, 56, 24, 25, 26, 27, 28, 29, 30, 7, 31, 32, 33, 34, 35, 36, 18, 37, 8, 9, 10, 11, 12, 13, 14, 68, 69, 70, 71, 72, 73, 74, 75, 76, 77] (by decide +kernel) (by decide +kernel)
set_option maxRecDepth 20000 in
theorem gX3_countNumber_X3_greatestJump : GoodIn wsX3_countNumber (wsV RX3 263 RX3 yX3_greatestJump wsX3_greatestJump) := goodIn_app (goodIn_of _ (by decide +kernel)) ggX3_countNumber_X3_greatestJump
set_option maxRecDepth 20000 in
theorem ggX3_countNumber_X3_overshoot : GoodIn wsX3_countNumber wsX3_overshoot := goodIn_r _ [67, 20, 21, 22, 23, 1, 49, 50, 51, 15, 16, 17, 18, 19, 24, 4, 25, 26, 27, 28, 29, 30, 7, 31, 32, 33, 34, 35, 36, 37, 8, 9, 10, 11, 12, 13, 14, 38, 39, 40, 41, 42, 43, 44, 68, 69, 70, 71, 72, 73, 74, 75, 76, 77] (by decide +kernel) (by decide +kernel)
set_option maxRecDepth 20000 in
theorem gX3_countNumber_X3_overshoot : GoodIn wsX3_countNumber (wsV RX3 266 RX3 yX3_overshoot wsX3_overshoot) := goodIn_app (goodIn_of _ (by decide +kernel)) ggX3_countNumber_X3_overshoot
theorem dX3_countNumber_0 : decode cX3_countNumber 0 = .ok (.iload_n 1, 1) := by decide +kernel
theorem dX3_countNumber_1 : decode cX3_countNumber 1 = .ok (.tableswitch 99 0 7 #[47, 55, 66, 71, 76, 81, 86, 91], 47) := by decide +kernel
theorem dX3_countNumber_48 : decode cX3_countNumber 48 = .ok (.aload_n 0, 1) := by decide +kernel
theorem dX3_countNumber_49 : decode cX3_countNumber 49 = .ok (.getfield 12, 3) := by decide +kernel
theorem dX3_countNumber_52 : decode cX3_countNumber 52 = .ok (.invokevirtual 144, 3) := by decide +kernel
theorem dX3_countNumber_55 : decode cX3_countNumber 55 = .ok (.ireturn, 1) := by decide +kernel
theorem dX3_countNumber_56 : decode cX3_countNumber 56 = .ok (.aload_n 0, 1) := by decide +kernel
theorem dX3_countNumber_57 : decode cX3_countNumber 57 = .ok (.getfield 12, 3) := by decide +kernel
theorem dX3_countNumber_60 : decode cX3_countNumber 60 = .ok (.getfield 69, 3) := by decide +kernel
theorem dX3_countNumber_63 : decode cX3_countNumber 63 = .ok (.invokestatic 240, 3) := by decide +kernel
theorem dX3_countNumber_66 : decode cX3_countNumber 66 = .ok (.ireturn, 1) := by decide +kernel
theorem dX3_countNumber_67 : decode cX3_countNumber 67 = .ok (.aload_n 0, 1) := by decide +kernel
theorem dX3_countNumber_68 : decode cX3_countNumber 68 = .ok (.invokevirtual 254, 3) := by decide +kernel
theorem dX3_countNumber_71 : decode cX3_countNumber 71 = .ok (.ireturn, 1) := by decide +kernel
theorem dX3_countNumber_72 : decode cX3_countNumber 72 = .ok (.aload_n 0, 1) := by decide +kernel
theorem dX3_countNumber_73 : decode cX3_countNumber 73 = .ok (.invokevirtual 257, 3) := by decide +kernel
theorem dX3_countNumber_76 : decode cX3_countNumber 76 = .ok (.ireturn, 1) := by decide +kernel
theorem dX3_countNumber_77 : decode cX3_countNumber 77 = .ok (.aload_n 0, 1) := by decide +kernel
theorem dX3_countNumber_78 : decode cX3_countNumber 78 = .ok (.invokevirtual 260, 3) := by decide +kernel
theorem dX3_countNumber_81 : decode cX3_countNumber 81 = .ok (.ireturn, 1) := by decide +kernel
theorem dX3_countNumber_82 : decode cX3_countNumber 82 = .ok (.aload_n 0, 1) := by decide +kernel
theorem dX3_countNumber_83 : decode cX3_countNumber 83 = .ok (.invokevirtual 263, 3) := by decide +kernel
theorem dX3_countNumber_86 : decode cX3_countNumber 86 = .ok (.ireturn, 1) := by decide +kernel
theorem dX3_countNumber_87 : decode cX3_countNumber 87 = .ok (.aload_n 0, 1) := by decide +kernel
theorem dX3_countNumber_88 : decode cX3_countNumber 88 = .ok (.invokevirtual 266, 3) := by decide +kernel
theorem dX3_countNumber_91 : decode cX3_countNumber 91 = .ok (.ireturn, 1) := by decide +kernel
theorem dX3_countNumber_92 : decode cX3_countNumber 92 = .ok (.aload_n 0, 1) := by decide +kernel
theorem dX3_countNumber_93 : decode cX3_countNumber 93 = .ok (.getfield 12, 3) := by decide +kernel
theorem dX3_countNumber_96 : decode cX3_countNumber 96 = .ok (.getfield 108, 3) := by decide +kernel
theorem dX3_countNumber_99 : decode cX3_countNumber 99 = .ok (.ireturn, 1) := by decide +kernel
theorem dX3_countNumber_100 : decode cX3_countNumber 100 = .ok (.aload_n 0, 1) := by decide +kernel
theorem dX3_countNumber_101 : decode cX3_countNumber 101 = .ok (.getfield 27, 3) := by decide +kernel
theorem dX3_countNumber_104 : decode cX3_countNumber 104 = .ok (.getfield 157, 3) := by decide +kernel
theorem dX3_countNumber_107 : decode cX3_countNumber 107 = .ok (.ireturn, 1) := by decide +kernel
set_option maxRecDepth 20000 in
theorem ggX3_greatestTrace_X0_traceAt : GoodIn wsX3_greatestTrace wsX0_traceAt := goodIn_r _ [9, 10, 11, 12, 7, 13, 14, 15, 16, 17, 18, 19, 20, 21, 22, 23, 24, 25, 26, 27, 28, 29, 36, 37, 38, 39] (by decide +kernel) (by decide +kernel)
set_option maxRecDepth 20000 in
theorem gX3_greatestTrace_X0_traceAt_n96 : GoodIn wsX3_greatestTrace (wsX0_traceAt) := ggX3_greatestTrace_X0_traceAt
theorem dX3_greatestTrace_0 : decode cX3_greatestTrace 0 = .ok (.aload_n 0, 1) := by decide +kernel
theorem dX3_greatestTrace_1 : decode cX3_greatestTrace 1 = .ok (.getfield 12, 3) := by decide +kernel
theorem dX3_greatestTrace_4 : decode cX3_greatestTrace 4 = .ok (.iconst 0, 1) := by decide +kernel
theorem dX3_greatestTrace_5 : decode cX3_greatestTrace 5 = .ok (.invokevirtual 96, 3) := by decide +kernel
theorem dX3_greatestTrace_8 : decode cX3_greatestTrace 8 = .ok (.istore_n 1, 1) := by decide +kernel
theorem dX3_greatestTrace_9 : decode cX3_greatestTrace 9 = .ok (.iconst 1, 1) := by decide +kernel
theorem dX3_greatestTrace_10 : decode cX3_greatestTrace 10 = .ok (.istore_n 2, 1) := by decide +kernel
theorem dX3_greatestTrace_11 : decode cX3_greatestTrace 11 = .ok (.iload_n 2, 1) := by decide +kernel
theorem dX3_greatestTrace_12 : decode cX3_greatestTrace 12 = .ok (.bipush 8, 2) := by decide +kernel
theorem dX3_greatestTrace_14 : decode cX3_greatestTrace 14 = .ok (.if_icmp .ge 22, 3) := by decide +kernel
theorem dX3_greatestTrace_17 : decode cX3_greatestTrace 17 = .ok (.iload_n 1, 1) := by decide +kernel
theorem dX3_greatestTrace_18 : decode cX3_greatestTrace 18 = .ok (.aload_n 0, 1) := by decide +kernel
theorem dX3_greatestTrace_19 : decode cX3_greatestTrace 19 = .ok (.getfield 12, 3) := by decide +kernel
theorem dX3_greatestTrace_22 : decode cX3_greatestTrace 22 = .ok (.iload_n 2, 1) := by decide +kernel
theorem dX3_greatestTrace_23 : decode cX3_greatestTrace 23 = .ok (.invokevirtual 96, 3) := by decide +kernel
theorem dX3_greatestTrace_26 : decode cX3_greatestTrace 26 = .ok (.invokestatic 105, 3) := by decide +kernel
theorem dX3_greatestTrace_29 : decode cX3_greatestTrace 29 = .ok (.istore_n 1, 1) := by decide +kernel
theorem dX3_greatestTrace_30 : decode cX3_greatestTrace 30 = .ok (.iinc 2 1, 3) := by decide +kernel
theorem dX3_greatestTrace_33 : decode cX3_greatestTrace 33 = .ok (.goto (-22), 3) := by decide +kernel
theorem dX3_greatestTrace_36 : decode cX3_greatestTrace 36 = .ok (.iload_n 1, 1) := by decide +kernel
theorem dX3_greatestTrace_37 : decode cX3_greatestTrace 37 = .ok (.ireturn, 1) := by decide +kernel
set_option maxRecDepth 20000 in
theorem ggX3_leastTrace_X0_traceAt : GoodIn wsX3_leastTrace wsX0_traceAt := goodIn_r _ [9, 10, 11, 12, 7, 13, 14, 15, 16, 17, 18, 19, 20, 21, 22, 23, 24, 25, 26, 27, 28, 29, 36, 37, 38, 39] (by decide +kernel) (by decide +kernel)
set_option maxRecDepth 20000 in
theorem gX3_leastTrace_X0_traceAt_n96 : GoodIn wsX3_leastTrace (wsX0_traceAt) := ggX3_leastTrace_X0_traceAt
theorem dX3_leastTrace_0 : decode cX3_leastTrace 0 = .ok (.aload_n 0, 1) := by decide +kernel
theorem dX3_leastTrace_1 : decode cX3_leastTrace 1 = .ok (.getfield 12, 3) := by decide +kernel
theorem dX3_leastTrace_4 : decode cX3_leastTrace 4 = .ok (.iconst 0, 1) := by decide +kernel
theorem dX3_leastTrace_5 : decode cX3_leastTrace 5 = .ok (.invokevirtual 96, 3) := by decide +kernel
theorem dX3_leastTrace_8 : decode cX3_leastTrace 8 = .ok (.istore_n 1, 1) := by decide +kernel
theorem dX3_leastTrace_9 : decode cX3_leastTrace 9 = .ok (.iconst 1, 1) := by decide +kernel
theorem dX3_leastTrace_10 : decode cX3_leastTrace 10 = .ok (.istore_n 2, 1) := by decide +kernel
theorem dX3_leastTrace_11 : decode cX3_leastTrace 11 = .ok (.iload_n 2, 1) := by decide +kernel
theorem dX3_leastTrace_12 : decode cX3_leastTrace 12 = .ok (.bipush 8, 2) := by decide +kernel
theorem dX3_leastTrace_14 : decode cX3_leastTrace 14 = .ok (.if_icmp .ge 22, 3) := by decide +kernel
theorem dX3_leastTrace_17 : decode cX3_leastTrace 17 = .ok (.iload_n 1, 1) := by decide +kernel
theorem dX3_leastTrace_18 : decode cX3_leastTrace 18 = .ok (.aload_n 0, 1) := by decide +kernel
theorem dX3_leastTrace_19 : decode cX3_leastTrace 19 = .ok (.getfield 12, 3) := by decide +kernel
theorem dX3_leastTrace_22 : decode cX3_leastTrace 22 = .ok (.iload_n 2, 1) := by decide +kernel
theorem dX3_leastTrace_23 : decode cX3_leastTrace 23 = .ok (.invokevirtual 96, 3) := by decide +kernel
theorem dX3_leastTrace_26 : decode cX3_leastTrace 26 = .ok (.invokestatic 102, 3) := by decide +kernel
theorem dX3_leastTrace_29 : decode cX3_leastTrace 29 = .ok (.istore_n 1, 1) := by decide +kernel
theorem dX3_leastTrace_30 : decode cX3_leastTrace 30 = .ok (.iinc 2 1, 3) := by decide +kernel
theorem dX3_leastTrace_33 : decode cX3_leastTrace 33 = .ok (.goto (-22), 3) := by decide +kernel
theorem dX3_leastTrace_36 : decode cX3_leastTrace 36 = .ok (.iload_n 1, 1) := by decide +kernel
theorem dX3_leastTrace_37 : decode cX3_leastTrace 37 = .ok (.ireturn, 1) := by decide +kernel
set_option maxRecDepth 20000 in
theorem ggX3_greatestDifference_X0_differenceAt : GoodIn wsX3_greatestDifference wsX0_differenceAt := goodIn_r _ [12, 13, 14, 15, 16, 10, 17, 18, 19, 20, 21, 22, 23, 24, 25, 26, 27, 28, 29, 30, 31, 32, 33, 34, 35, 36, 37, 44, 45, 46, 47] (by decide +kernel) (by decide +kernel)
set_option maxRecDepth 20000 in
theorem gX3_greatestDifference_X0_differenceAt_n185 : GoodIn wsX3_greatestDifference (wsX0_differenceAt) := ggX3_greatestDifference_X0_differenceAt
theorem dX3_greatestDifference_0 : decode cX3_greatestDifference 0 = .ok (.iconst 0, 1) := by decide +kernel
theorem dX3_greatestDifference_1 : decode cX3_greatestDifference 1 = .ok (.istore_n 1, 1) := by decide +kernel
theorem dX3_greatestDifference_2 : decode cX3_greatestDifference 2 = .ok (.iconst 0, 1) := by decide +kernel
theorem dX3_greatestDifference_3 : decode cX3_greatestDifference 3 = .ok (.istore_n 2, 1) := by decide +kernel
theorem dX3_greatestDifference_4 : decode cX3_greatestDifference 4 = .ok (.iload_n 2, 1) := by decide +kernel
theorem dX3_greatestDifference_5 : decode cX3_greatestDifference 5 = .ok (.bipush 8, 2) := by decide +kernel
theorem dX3_greatestDifference_7 : decode cX3_greatestDifference 7 = .ok (.if_icmp .ge 25, 3) := by decide +kernel
theorem dX3_greatestDifference_10 : decode cX3_greatestDifference 10 = .ok (.iload_n 1, 1) := by decide +kernel
theorem dX3_greatestDifference_11 : decode cX3_greatestDifference 11 = .ok (.aload_n 0, 1) := by decide +kernel
theorem dX3_greatestDifference_12 : decode cX3_greatestDifference 12 = .ok (.getfield 12, 3) := by decide +kernel
theorem dX3_greatestDifference_15 : decode cX3_greatestDifference 15 = .ok (.iload_n 2, 1) := by decide +kernel
theorem dX3_greatestDifference_16 : decode cX3_greatestDifference 16 = .ok (.invokevirtual 185, 3) := by decide +kernel
theorem dX3_greatestDifference_19 : decode cX3_greatestDifference 19 = .ok (.invokestatic 83, 3) := by decide +kernel
theorem dX3_greatestDifference_22 : decode cX3_greatestDifference 22 = .ok (.invokestatic 105, 3) := by decide +kernel
theorem dX3_greatestDifference_25 : decode cX3_greatestDifference 25 = .ok (.istore_n 1, 1) := by decide +kernel
theorem dX3_greatestDifference_26 : decode cX3_greatestDifference 26 = .ok (.iinc 2 1, 3) := by decide +kernel
theorem dX3_greatestDifference_29 : decode cX3_greatestDifference 29 = .ok (.goto (-25), 3) := by decide +kernel
theorem dX3_greatestDifference_32 : decode cX3_greatestDifference 32 = .ok (.iload_n 1, 1) := by decide +kernel
theorem dX3_greatestDifference_33 : decode cX3_greatestDifference 33 = .ok (.ireturn, 1) := by decide +kernel
set_option maxRecDepth 20000 in
theorem ggX3_greatestJump_X0_jumpAt : GoodIn wsX3_greatestJump wsX0_jumpAt := goodIn_r _ [12, 13, 14, 15, 10, 16, 17, 18, 19, 20, 21, 22, 23, 24, 25, 26, 27, 28, 29, 30, 31, 32, 33, 34, 35, 36, 43, 44, 45, 46] (by decide +kernel) (by decide +kernel)
set_option maxRecDepth 20000 in
theorem gX3_greatestJump_X0_jumpAt_n251 : GoodIn wsX3_greatestJump (wsX0_jumpAt) := ggX3_greatestJump_X0_jumpAt
theorem dX3_greatestJump_0 : decode cX3_greatestJump 0 = .ok (.iconst 0, 1) := by decide +kernel
theorem dX3_greatestJump_1 : decode cX3_greatestJump 1 = .ok (.istore_n 1, 1) := by decide +kernel
theorem dX3_greatestJump_2 : decode cX3_greatestJump 2 = .ok (.iconst 0, 1) := by decide +kernel
theorem dX3_greatestJump_3 : decode cX3_greatestJump 3 = .ok (.istore_n 2, 1) := by decide +kernel
theorem dX3_greatestJump_4 : decode cX3_greatestJump 4 = .ok (.iload_n 2, 1) := by decide +kernel
theorem dX3_greatestJump_5 : decode cX3_greatestJump 5 = .ok (.bipush 8, 2) := by decide +kernel
theorem dX3_greatestJump_7 : decode cX3_greatestJump 7 = .ok (.if_icmp .ge 25, 3) := by decide +kernel
theorem dX3_greatestJump_10 : decode cX3_greatestJump 10 = .ok (.iload_n 1, 1) := by decide +kernel
theorem dX3_greatestJump_11 : decode cX3_greatestJump 11 = .ok (.aload_n 0, 1) := by decide +kernel
theorem dX3_greatestJump_12 : decode cX3_greatestJump 12 = .ok (.getfield 12, 3) := by decide +kernel
theorem dX3_greatestJump_15 : decode cX3_greatestJump 15 = .ok (.iload_n 2, 1) := by decide +kernel
theorem dX3_greatestJump_16 : decode cX3_greatestJump 16 = .ok (.invokevirtual 251, 3) := by decide +kernel
theorem dX3_greatestJump_19 : decode cX3_greatestJump 19 = .ok (.invokestatic 83, 3) := by decide +kernel
theorem dX3_greatestJump_22 : decode cX3_greatestJump 22 = .ok (.invokestatic 105, 3) := by decide +kernel
theorem dX3_greatestJump_25 : decode cX3_greatestJump 25 = .ok (.istore_n 1, 1) := by decide +kernel
theorem dX3_greatestJump_26 : decode cX3_greatestJump 26 = .ok (.iinc 2 1, 3) := by decide +kernel
theorem dX3_greatestJump_29 : decode cX3_greatestJump 29 = .ok (.goto (-25), 3) := by decide +kernel
theorem dX3_greatestJump_32 : decode cX3_greatestJump 32 = .ok (.iload_n 1, 1) := by decide +kernel
theorem dX3_greatestJump_33 : decode cX3_greatestJump 33 = .ok (.ireturn, 1) := by decide +kernel
set_option maxRecDepth 20000 in
theorem ggX3_overshoot_X3_greatestTrace : GoodIn wsX3_overshoot wsX3_greatestTrace := goodIn_r _ [13, 5, 1, 2, 3, 4, 14, 15, 16, 17, 18, 19, 20, 21, 22, 23, 24, 25, 26, 27, 28, 12, 29, 30, 31, 32, 33, 34, 35, 36, 44, 45, 46, 47, 48, 49, 50, 51, 52, 53] (by decide +kernel) (by decide +kernel)
set_option maxRecDepth 20000 in
theorem gX3_overshoot_X3_greatestTrace : GoodIn wsX3_overshoot (wsV RX3 254 RX3 yX3_greatestTrace wsX3_greatestTrace) := goodIn_app (goodIn_of _ (by decide +kernel)) ggX3_overshoot_X3_greatestTrace
set_option maxRecDepth 20000 in
theorem ggX3_overshoot_X3_leastTrace : GoodIn wsX3_overshoot wsX3_leastTrace := goodIn_r _ [40, 5, 41, 42, 3, 43, 14, 15, 16, 17, 18, 19, 20, 21, 22, 23, 24, 25, 26, 27, 28, 12, 29, 30, 31, 32, 33, 34, 35, 36, 44, 45, 46, 47, 48, 49, 50, 51, 52, 53] (by decide +kernel) (by decide +kernel)
set_option maxRecDepth 20000 in
theorem gX3_overshoot_X3_leastTrace : GoodIn wsX3_overshoot (wsV RX3 257 RX3 yX3_leastTrace wsX3_leastTrace) := goodIn_app (goodIn_of _ (by decide +kernel)) ggX3_overshoot_X3_leastTrace
set_option maxRecDepth 20000 in
theorem ggX3_overshoot_X0_drawnAmplitude : GoodIn wsX3_overshoot wsX0_drawnAmplitude := goodIn_r _ [21, 22, 23, 24, 25, 15, 26, 27, 50, 51, 52, 53] (by decide +kernel) (by decide +kernel)
set_option maxRecDepth 20000 in
theorem gX3_overshoot_X0_drawnAmplitude_n201 : GoodIn wsX3_overshoot (wsX0_drawnAmplitude) := ggX3_overshoot_X0_drawnAmplitude
theorem dX3_overshoot_0 : decode cX3_overshoot 0 = .ok (.aload_n 0, 1) := by decide +kernel
theorem dX3_overshoot_1 : decode cX3_overshoot 1 = .ok (.invokevirtual 254, 3) := by decide +kernel
theorem dX3_overshoot_4 : decode cX3_overshoot 4 = .ok (.aload_n 0, 1) := by decide +kernel
theorem dX3_overshoot_5 : decode cX3_overshoot 5 = .ok (.invokevirtual 257, 3) := by decide +kernel
theorem dX3_overshoot_8 : decode cX3_overshoot 8 = .ok (.ineg, 1) := by decide +kernel
theorem dX3_overshoot_9 : decode cX3_overshoot 9 = .ok (.invokestatic 105, 3) := by decide +kernel
theorem dX3_overshoot_12 : decode cX3_overshoot 12 = .ok (.aload_n 0, 1) := by decide +kernel
theorem dX3_overshoot_13 : decode cX3_overshoot 13 = .ok (.getfield 12, 3) := by decide +kernel
theorem dX3_overshoot_16 : decode cX3_overshoot 16 = .ok (.iconst 0, 1) := by decide +kernel
theorem dX3_overshoot_17 : decode cX3_overshoot 17 = .ok (.invokevirtual 201, 3) := by decide +kernel
theorem dX3_overshoot_20 : decode cX3_overshoot 20 = .ok (.invokestatic 83, 3) := by decide +kernel
theorem dX3_overshoot_23 : decode cX3_overshoot 23 = .ok (.isub, 1) := by decide +kernel
theorem dX3_overshoot_24 : decode cX3_overshoot 24 = .ok (.ireturn, 1) := by decide +kernel
set_option maxRecDepth 20000 in
theorem ggX3_isDifference_X0_differenceAt : GoodIn wsX3_isDifference wsX0_differenceAt := goodIn_r _ [5, 6, 7, 8, 9, 3, 10, 11, 12, 13, 14, 15, 16, 17, 18, 19, 20, 21, 22, 23, 24, 25, 26, 27, 28, 29, 30, 38, 39, 40, 41] (by decide +kernel) (by decide +kernel)
set_option maxRecDepth 20000 in
theorem gX3_isDifference_X0_differenceAt_n185 : GoodIn wsX3_isDifference (wsX0_differenceAt) := ggX3_isDifference_X0_differenceAt
set_option maxRecDepth 20000 in
theorem ggX3_isDifference_X3_wave : GoodIn wsX3_isDifference wsX3_wave := goodIn_r _ [23, 24, 25, 26, 27, 28, 29, 30] (by decide +kernel) (by decide +kernel)
set_option maxRecDepth 20000 in
theorem gX3_isDifference_X3_wave : GoodIn wsX3_isDifference (va_wsS RX3 77 yX3_wave wsX3_wave) := goodIn_app (goodIn_of _ (by decide +kernel)) ggX3_isDifference_X3_wave
theorem dX3_isDifference_0 : decode cX3_isDifference 0 = .ok (.iconst 0, 1) := by decide +kernel
theorem dX3_isDifference_1 : decode cX3_isDifference 1 = .ok (.istore_n 3, 1) := by decide +kernel
theorem dX3_isDifference_2 : decode cX3_isDifference 2 = .ok (.iload_n 3, 1) := by decide +kernel
theorem dX3_isDifference_3 : decode cX3_isDifference 3 = .ok (.bipush 8, 2) := by decide +kernel
theorem dX3_isDifference_5 : decode cX3_isDifference 5 = .ok (.if_icmp .ge 29, 3) := by decide +kernel
theorem dX3_isDifference_8 : decode cX3_isDifference 8 = .ok (.aload_n 0, 1) := by decide +kernel
theorem dX3_isDifference_9 : decode cX3_isDifference 9 = .ok (.getfield 12, 3) := by decide +kernel
theorem dX3_isDifference_12 : decode cX3_isDifference 12 = .ok (.iload_n 3, 1) := by decide +kernel
theorem dX3_isDifference_13 : decode cX3_isDifference 13 = .ok (.invokevirtual 185, 3) := by decide +kernel
theorem dX3_isDifference_16 : decode cX3_isDifference 16 = .ok (.iload_n 1, 1) := by decide +kernel
theorem dX3_isDifference_17 : decode cX3_isDifference 17 = .ok (.iload_n 2, 1) := by decide +kernel
theorem dX3_isDifference_18 : decode cX3_isDifference 18 = .ok (.iload_n 3, 1) := by decide +kernel
theorem dX3_isDifference_19 : decode cX3_isDifference 19 = .ok (.invokestatic 77, 3) := by decide +kernel
theorem dX3_isDifference_22 : decode cX3_isDifference 22 = .ok (.imul, 1) := by decide +kernel
theorem dX3_isDifference_23 : decode cX3_isDifference 23 = .ok (.if_icmp .eq 5, 3) := by decide +kernel
theorem dX3_isDifference_26 : decode cX3_isDifference 26 = .ok (.iconst 0, 1) := by decide +kernel
theorem dX3_isDifference_27 : decode cX3_isDifference 27 = .ok (.ireturn, 1) := by decide +kernel
theorem dX3_isDifference_28 : decode cX3_isDifference 28 = .ok (.iinc 3 1, 3) := by decide +kernel
theorem dX3_isDifference_31 : decode cX3_isDifference 31 = .ok (.goto (-29), 3) := by decide +kernel
theorem dX3_isDifference_34 : decode cX3_isDifference 34 = .ok (.iconst 1, 1) := by decide +kernel
theorem dX3_isDifference_35 : decode cX3_isDifference 35 = .ok (.ireturn, 1) := by decide +kernel
set_option maxRecDepth 20000 in
theorem ggX3_fewestNumber_X0_errorWithout : GoodIn wsX3_fewestNumber wsX0_errorWithout := goodIn_r _ [6, 7, 8, 9, 4, 10, 11, 12, 13, 14, 15, 16, 36, 37, 38, 39] (by decide +kernel) (by decide +kernel)
set_option maxRecDepth 20000 in
theorem gX3_fewestNumber_X0_errorWithout_n269 : GoodIn wsX3_fewestNumber (wsX0_errorWithout) := ggX3_fewestNumber_X0_errorWithout
set_option maxRecDepth 20000 in
theorem ggX3_fewestNumber_X3_fewestByDropping : GoodIn wsX3_fewestNumber wsX3_fewestByDropping := goodIn_r _ [21, 1, 22, 23, 24, 20, 25, 30, 31, 32, 33, 34, 35] (by decide +kernel) (by decide +kernel)
set_option maxRecDepth 20000 in
theorem gX3_fewestNumber_X3_fewestByDropping : GoodIn wsX3_fewestNumber (wsV RX3 272 RX3 yX3_fewestByDropping wsX3_fewestByDropping) := goodIn_app (goodIn_of _ (by decide +kernel)) ggX3_fewestNumber_X3_fewestByDropping
set_option maxRecDepth 20000 in
theorem ggX3_fewestNumber_X3_fewestOfAllSets : GoodIn wsX3_fewestNumber wsX3_fewestOfAllSets := goodIn_r _ [29, 1, 30, 31, 32, 33, 34, 35] (by decide +kernel) (by decide +kernel)
set_option maxRecDepth 20000 in
theorem gX3_fewestNumber_X3_fewestOfAllSets : GoodIn wsX3_fewestNumber (wsV RX3 275 RX3 yX3_fewestOfAllSets wsX3_fewestOfAllSets) := goodIn_app (goodIn_of _ (by decide +kernel)) ggX3_fewestNumber_X3_fewestOfAllSets
theorem dX3_fewestNumber_0 : decode cX3_fewestNumber 0 = .ok (.iconst 0, 1) := by decide +kernel
theorem dX3_fewestNumber_1 : decode cX3_fewestNumber 1 = .ok (.istore_n 3, 1) := by decide +kernel
theorem dX3_fewestNumber_2 : decode cX3_fewestNumber 2 = .ok (.iload_n 3, 1) := by decide +kernel
theorem dX3_fewestNumber_3 : decode cX3_fewestNumber 3 = .ok (.bipush 8, 2) := by decide +kernel
theorem dX3_fewestNumber_5 : decode cX3_fewestNumber 5 = .ok (.if_icmp .ge 23, 3) := by decide +kernel
theorem dX3_fewestNumber_8 : decode cX3_fewestNumber 8 = .ok (.aload_n 0, 1) := by decide +kernel
theorem dX3_fewestNumber_9 : decode cX3_fewestNumber 9 = .ok (.getfield 38, 3) := by decide +kernel
theorem dX3_fewestNumber_12 : decode cX3_fewestNumber 12 = .ok (.iload_n 3, 1) := by decide +kernel
theorem dX3_fewestNumber_13 : decode cX3_fewestNumber 13 = .ok (.aload_n 0, 1) := by decide +kernel
theorem dX3_fewestNumber_14 : decode cX3_fewestNumber 14 = .ok (.getfield 12, 3) := by decide +kernel
theorem dX3_fewestNumber_17 : decode cX3_fewestNumber 17 = .ok (.iload_n 3, 1) := by decide +kernel
theorem dX3_fewestNumber_18 : decode cX3_fewestNumber 18 = .ok (.invokevirtual 269, 3) := by decide +kernel
theorem dX3_fewestNumber_21 : decode cX3_fewestNumber 21 = .ok (.iastore, 1) := by decide +kernel
theorem dX3_fewestNumber_22 : decode cX3_fewestNumber 22 = .ok (.iinc 3 1, 3) := by decide +kernel
theorem dX3_fewestNumber_25 : decode cX3_fewestNumber 25 = .ok (.goto (-23), 3) := by decide +kernel
theorem dX3_fewestNumber_28 : decode cX3_fewestNumber 28 = .ok (.iload_n 2, 1) := by decide +kernel
theorem dX3_fewestNumber_29 : decode cX3_fewestNumber 29 = .ok (.ifCond .ne 11, 3) := by decide +kernel
theorem dX3_fewestNumber_32 : decode cX3_fewestNumber 32 = .ok (.aload_n 0, 1) := by decide +kernel
theorem dX3_fewestNumber_33 : decode cX3_fewestNumber 33 = .ok (.iload_n 1, 1) := by decide +kernel
theorem dX3_fewestNumber_34 : decode cX3_fewestNumber 34 = .ok (.invokevirtual 272, 3) := by decide +kernel
theorem dX3_fewestNumber_37 : decode cX3_fewestNumber 37 = .ok (.goto 8, 3) := by decide +kernel
theorem dX3_fewestNumber_40 : decode cX3_fewestNumber 40 = .ok (.aload_n 0, 1) := by decide +kernel
theorem dX3_fewestNumber_41 : decode cX3_fewestNumber 41 = .ok (.iload_n 1, 1) := by decide +kernel
theorem dX3_fewestNumber_42 : decode cX3_fewestNumber 42 = .ok (.invokevirtual 275, 3) := by decide +kernel
theorem dX3_fewestNumber_45 : decode cX3_fewestNumber 45 = .ok (.ireturn, 1) := by decide +kernel
set_option maxRecDepth 20000 in
theorem ggX3_fewestByDropping_X3_leastInRow : GoodIn wsX3_fewestByDropping wsX3_leastInRow := goodIn_r _ [6, 1, 7, 8, 9, 10, 11, 12] (by decide +kernel) (by decide +kernel)
set_option maxRecDepth 20000 in
theorem gX3_fewestByDropping_X3_leastInRow : GoodIn wsX3_fewestByDropping (wsV RX3 278 RX3 yX3_leastInRow wsX3_leastInRow) := goodIn_app (goodIn_of _ (by decide +kernel)) ggX3_fewestByDropping_X3_leastInRow
theorem dX3_fewestByDropping_0 : decode cX3_fewestByDropping 0 = .ok (.iload_n 1, 1) := by decide +kernel
theorem dX3_fewestByDropping_1 : decode cX3_fewestByDropping 1 = .ok (.istore_n 2, 1) := by decide +kernel
theorem dX3_fewestByDropping_2 : decode cX3_fewestByDropping 2 = .ok (.iconst 0, 1) := by decide +kernel
theorem dX3_fewestByDropping_3 : decode cX3_fewestByDropping 3 = .ok (.istore_n 3, 1) := by decide +kernel
theorem dX3_fewestByDropping_4 : decode cX3_fewestByDropping 4 = .ok (.iconst 0, 1) := by decide +kernel
theorem dX3_fewestByDropping_5 : decode cX3_fewestByDropping 5 = .ok (.istore 4, 2) := by decide +kernel
theorem dX3_fewestByDropping_7 : decode cX3_fewestByDropping 7 = .ok (.iload 4, 2) := by decide +kernel
theorem dX3_fewestByDropping_9 : decode cX3_fewestByDropping 9 = .ok (.bipush 8, 2) := by decide +kernel
theorem dX3_fewestByDropping_11 : decode cX3_fewestByDropping 11 = .ok (.if_icmp .ge 27, 3) := by decide +kernel
theorem dX3_fewestByDropping_14 : decode cX3_fewestByDropping 14 = .ok (.iload_n 3, 1) := by decide +kernel
theorem dX3_fewestByDropping_15 : decode cX3_fewestByDropping 15 = .ok (.aload_n 0, 1) := by decide +kernel
theorem dX3_fewestByDropping_16 : decode cX3_fewestByDropping 16 = .ok (.getfield 38, 3) := by decide +kernel
theorem dX3_fewestByDropping_19 : decode cX3_fewestByDropping 19 = .ok (.iload 4, 2) := by decide +kernel
theorem dX3_fewestByDropping_21 : decode cX3_fewestByDropping 21 = .ok (.iaload, 1) := by decide +kernel
theorem dX3_fewestByDropping_22 : decode cX3_fewestByDropping 22 = .ok (.ifCond .le 7, 3) := by decide +kernel
theorem dX3_fewestByDropping_25 : decode cX3_fewestByDropping 25 = .ok (.iconst 1, 1) := by decide +kernel
theorem dX3_fewestByDropping_26 : decode cX3_fewestByDropping 26 = .ok (.goto 4, 3) := by decide +kernel
theorem dX3_fewestByDropping_29 : decode cX3_fewestByDropping 29 = .ok (.iconst 0, 1) := by decide +kernel
theorem dX3_fewestByDropping_30 : decode cX3_fewestByDropping 30 = .ok (.iadd, 1) := by decide +kernel
theorem dX3_fewestByDropping_31 : decode cX3_fewestByDropping 31 = .ok (.istore_n 3, 1) := by decide +kernel
theorem dX3_fewestByDropping_32 : decode cX3_fewestByDropping 32 = .ok (.iinc 4 1, 3) := by decide +kernel
theorem dX3_fewestByDropping_35 : decode cX3_fewestByDropping 35 = .ok (.goto (-28), 3) := by decide +kernel
theorem dX3_fewestByDropping_38 : decode cX3_fewestByDropping 38 = .ok (.iconst 0, 1) := by decide +kernel
theorem dX3_fewestByDropping_39 : decode cX3_fewestByDropping 39 = .ok (.istore 4, 2) := by decide +kernel
theorem dX3_fewestByDropping_41 : decode cX3_fewestByDropping 41 = .ok (.iload 4, 2) := by decide +kernel
theorem dX3_fewestByDropping_43 : decode cX3_fewestByDropping 43 = .ok (.bipush 8, 2) := by decide +kernel
theorem dX3_fewestByDropping_45 : decode cX3_fewestByDropping 45 = .ok (.if_icmp .ge 55, 3) := by decide +kernel
theorem dX3_fewestByDropping_48 : decode cX3_fewestByDropping 48 = .ok (.aload_n 0, 1) := by decide +kernel
theorem dX3_fewestByDropping_49 : decode cX3_fewestByDropping 49 = .ok (.invokevirtual 278, 3) := by decide +kernel
theorem dX3_fewestByDropping_52 : decode cX3_fewestByDropping 52 = .ok (.istore 5, 2) := by decide +kernel
theorem dX3_fewestByDropping_54 : decode cX3_fewestByDropping 54 = .ok (.iload 5, 2) := by decide +kernel
theorem dX3_fewestByDropping_56 : decode cX3_fewestByDropping 56 = .ok (.iconst (-1), 1) := by decide +kernel
theorem dX3_fewestByDropping_57 : decode cX3_fewestByDropping 57 = .ok (.if_icmp .eq 14, 3) := by decide +kernel
theorem dX3_fewestByDropping_60 : decode cX3_fewestByDropping 60 = .ok (.aload_n 0, 1) := by decide +kernel
theorem dX3_fewestByDropping_61 : decode cX3_fewestByDropping 61 = .ok (.getfield 38, 3) := by decide +kernel
theorem dX3_fewestByDropping_64 : decode cX3_fewestByDropping 64 = .ok (.iload 5, 2) := by decide +kernel
theorem dX3_fewestByDropping_66 : decode cX3_fewestByDropping 66 = .ok (.iaload, 1) := by decide +kernel
theorem dX3_fewestByDropping_67 : decode cX3_fewestByDropping 67 = .ok (.iload_n 2, 1) := by decide +kernel
theorem dX3_fewestByDropping_68 : decode cX3_fewestByDropping 68 = .ok (.if_icmp .le 5, 3) := by decide +kernel
theorem dX3_fewestByDropping_71 : decode cX3_fewestByDropping 71 = .ok (.iload_n 3, 1) := by decide +kernel
theorem dX3_fewestByDropping_72 : decode cX3_fewestByDropping 72 = .ok (.ireturn, 1) := by decide +kernel
theorem dX3_fewestByDropping_73 : decode cX3_fewestByDropping 73 = .ok (.iload_n 2, 1) := by decide +kernel
theorem dX3_fewestByDropping_74 : decode cX3_fewestByDropping 74 = .ok (.aload_n 0, 1) := by decide +kernel
theorem dX3_fewestByDropping_75 : decode cX3_fewestByDropping 75 = .ok (.getfield 38, 3) := by decide +kernel
theorem dX3_fewestByDropping_78 : decode cX3_fewestByDropping 78 = .ok (.iload 5, 2) := by decide +kernel
theorem dX3_fewestByDropping_80 : decode cX3_fewestByDropping 80 = .ok (.iaload, 1) := by decide +kernel
theorem dX3_fewestByDropping_81 : decode cX3_fewestByDropping 81 = .ok (.isub, 1) := by decide +kernel
theorem dX3_fewestByDropping_82 : decode cX3_fewestByDropping 82 = .ok (.istore_n 2, 1) := by decide +kernel
theorem dX3_fewestByDropping_83 : decode cX3_fewestByDropping 83 = .ok (.aload_n 0, 1) := by decide +kernel
theorem dX3_fewestByDropping_84 : decode cX3_fewestByDropping 84 = .ok (.getfield 38, 3) := by decide +kernel
theorem dX3_fewestByDropping_87 : decode cX3_fewestByDropping 87 = .ok (.iload 5, 2) := by decide +kernel
theorem dX3_fewestByDropping_89 : decode cX3_fewestByDropping 89 = .ok (.iconst 0, 1) := by decide +kernel
theorem dX3_fewestByDropping_90 : decode cX3_fewestByDropping 90 = .ok (.iastore, 1) := by decide +kernel
theorem dX3_fewestByDropping_91 : decode cX3_fewestByDropping 91 = .ok (.iinc 3 (-1), 3) := by decide +kernel
theorem dX3_fewestByDropping_94 : decode cX3_fewestByDropping 94 = .ok (.iinc 4 1, 3) := by decide +kernel
theorem dX3_fewestByDropping_97 : decode cX3_fewestByDropping 97 = .ok (.goto (-56), 3) := by decide +kernel
theorem dX3_fewestByDropping_100 : decode cX3_fewestByDropping 100 = .ok (.iload_n 3, 1) := by decide +kernel
theorem dX3_fewestByDropping_101 : decode cX3_fewestByDropping 101 = .ok (.ireturn, 1) := by decide +kernel
theorem dX3_leastInRow_0 : decode cX3_leastInRow 0 = .ok (.iconst (-1), 1) := by decide +kernel
theorem dX3_leastInRow_1 : decode cX3_leastInRow 1 = .ok (.istore_n 1, 1) := by decide +kernel
theorem dX3_leastInRow_2 : decode cX3_leastInRow 2 = .ok (.iconst 0, 1) := by decide +kernel
theorem dX3_leastInRow_3 : decode cX3_leastInRow 3 = .ok (.istore_n 2, 1) := by decide +kernel
theorem dX3_leastInRow_4 : decode cX3_leastInRow 4 = .ok (.iload_n 2, 1) := by decide +kernel
theorem dX3_leastInRow_5 : decode cX3_leastInRow 5 = .ok (.bipush 8, 2) := by decide +kernel
theorem dX3_leastInRow_7 : decode cX3_leastInRow 7 = .ok (.if_icmp .ge 40, 3) := by decide +kernel
theorem dX3_leastInRow_10 : decode cX3_leastInRow 10 = .ok (.aload_n 0, 1) := by decide +kernel
theorem dX3_leastInRow_11 : decode cX3_leastInRow 11 = .ok (.getfield 38, 3) := by decide +kernel
theorem dX3_leastInRow_14 : decode cX3_leastInRow 14 = .ok (.iload_n 2, 1) := by decide +kernel
theorem dX3_leastInRow_15 : decode cX3_leastInRow 15 = .ok (.iaload, 1) := by decide +kernel
theorem dX3_leastInRow_16 : decode cX3_leastInRow 16 = .ok (.ifCond .le 25, 3) := by decide +kernel
theorem dX3_leastInRow_19 : decode cX3_leastInRow 19 = .ok (.iload_n 1, 1) := by decide +kernel
theorem dX3_leastInRow_20 : decode cX3_leastInRow 20 = .ok (.iconst (-1), 1) := by decide +kernel
theorem dX3_leastInRow_21 : decode cX3_leastInRow 21 = .ok (.if_icmp .eq 18, 3) := by decide +kernel
theorem dX3_leastInRow_24 : decode cX3_leastInRow 24 = .ok (.aload_n 0, 1) := by decide +kernel
theorem dX3_leastInRow_25 : decode cX3_leastInRow 25 = .ok (.getfield 38, 3) := by decide +kernel
theorem dX3_leastInRow_28 : decode cX3_leastInRow 28 = .ok (.iload_n 2, 1) := by decide +kernel
theorem dX3_leastInRow_29 : decode cX3_leastInRow 29 = .ok (.iaload, 1) := by decide +kernel
theorem dX3_leastInRow_30 : decode cX3_leastInRow 30 = .ok (.aload_n 0, 1) := by decide +kernel
theorem dX3_leastInRow_31 : decode cX3_leastInRow 31 = .ok (.getfield 38, 3) := by decide +kernel
theorem dX3_leastInRow_34 : decode cX3_leastInRow 34 = .ok (.iload_n 1, 1) := by decide +kernel
theorem dX3_leastInRow_35 : decode cX3_leastInRow 35 = .ok (.iaload, 1) := by decide +kernel
theorem dX3_leastInRow_36 : decode cX3_leastInRow 36 = .ok (.if_icmp .ge 5, 3) := by decide +kernel
theorem dX3_leastInRow_39 : decode cX3_leastInRow 39 = .ok (.iload_n 2, 1) := by decide +kernel
theorem dX3_leastInRow_40 : decode cX3_leastInRow 40 = .ok (.istore_n 1, 1) := by decide +kernel
theorem dX3_leastInRow_41 : decode cX3_leastInRow 41 = .ok (.iinc 2 1, 3) := by decide +kernel
theorem dX3_leastInRow_44 : decode cX3_leastInRow 44 = .ok (.goto (-40), 3) := by decide +kernel
theorem dX3_leastInRow_47 : decode cX3_leastInRow 47 = .ok (.iload_n 1, 1) := by decide +kernel
theorem dX3_leastInRow_48 : decode cX3_leastInRow 48 = .ok (.ireturn, 1) := by decide +kernel
theorem dX3_fewestOfAllSets_0 : decode cX3_fewestOfAllSets 0 = .ok (.bipush 8, 2) := by decide +kernel
theorem dX3_fewestOfAllSets_2 : decode cX3_fewestOfAllSets 2 = .ok (.istore_n 2, 1) := by decide +kernel
theorem dX3_fewestOfAllSets_3 : decode cX3_fewestOfAllSets 3 = .ok (.iconst 0, 1) := by decide +kernel
theorem dX3_fewestOfAllSets_4 : decode cX3_fewestOfAllSets 4 = .ok (.istore_n 3, 1) := by decide +kernel
theorem dX3_fewestOfAllSets_5 : decode cX3_fewestOfAllSets 5 = .ok (.iload_n 3, 1) := by decide +kernel
theorem dX3_fewestOfAllSets_6 : decode cX3_fewestOfAllSets 6 = .ok (.sipush 256, 3) := by decide +kernel
theorem dX3_fewestOfAllSets_9 : decode cX3_fewestOfAllSets 9 = .ok (.if_icmp .ge 83, 3) := by decide +kernel
theorem dX3_fewestOfAllSets_12 : decode cX3_fewestOfAllSets 12 = .ok (.iconst 0, 1) := by decide +kernel
theorem dX3_fewestOfAllSets_13 : decode cX3_fewestOfAllSets 13 = .ok (.istore 4, 2) := by decide +kernel
theorem dX3_fewestOfAllSets_15 : decode cX3_fewestOfAllSets 15 = .ok (.iconst 0, 1) := by decide +kernel
theorem dX3_fewestOfAllSets_16 : decode cX3_fewestOfAllSets 16 = .ok (.istore 5, 2) := by decide +kernel
theorem dX3_fewestOfAllSets_18 : decode cX3_fewestOfAllSets 18 = .ok (.iconst 0, 1) := by decide +kernel
theorem dX3_fewestOfAllSets_19 : decode cX3_fewestOfAllSets 19 = .ok (.istore 6, 2) := by decide +kernel
theorem dX3_fewestOfAllSets_21 : decode cX3_fewestOfAllSets 21 = .ok (.iload 6, 2) := by decide +kernel
theorem dX3_fewestOfAllSets_23 : decode cX3_fewestOfAllSets 23 = .ok (.bipush 8, 2) := by decide +kernel
theorem dX3_fewestOfAllSets_25 : decode cX3_fewestOfAllSets 25 = .ok (.if_icmp .ge 46, 3) := by decide +kernel
theorem dX3_fewestOfAllSets_28 : decode cX3_fewestOfAllSets 28 = .ok (.iload_n 3, 1) := by decide +kernel
theorem dX3_fewestOfAllSets_29 : decode cX3_fewestOfAllSets 29 = .ok (.iload 6, 2) := by decide +kernel
theorem dX3_fewestOfAllSets_31 : decode cX3_fewestOfAllSets 31 = .ok (.ishr, 1) := by decide +kernel
theorem dX3_fewestOfAllSets_32 : decode cX3_fewestOfAllSets 32 = .ok (.iconst 1, 1) := by decide +kernel
theorem dX3_fewestOfAllSets_33 : decode cX3_fewestOfAllSets 33 = .ok (.iand, 1) := by decide +kernel
theorem dX3_fewestOfAllSets_34 : decode cX3_fewestOfAllSets 34 = .ok (.ifCond .ne 18, 3) := by decide +kernel
theorem dX3_fewestOfAllSets_37 : decode cX3_fewestOfAllSets 37 = .ok (.iload 5, 2) := by decide +kernel
theorem dX3_fewestOfAllSets_39 : decode cX3_fewestOfAllSets 39 = .ok (.aload_n 0, 1) := by decide +kernel
theorem dX3_fewestOfAllSets_40 : decode cX3_fewestOfAllSets 40 = .ok (.getfield 38, 3) := by decide +kernel
theorem dX3_fewestOfAllSets_43 : decode cX3_fewestOfAllSets 43 = .ok (.iload 6, 2) := by decide +kernel
theorem dX3_fewestOfAllSets_45 : decode cX3_fewestOfAllSets 45 = .ok (.iaload, 1) := by decide +kernel
theorem dX3_fewestOfAllSets_46 : decode cX3_fewestOfAllSets 46 = .ok (.iadd, 1) := by decide +kernel
theorem dX3_fewestOfAllSets_47 : decode cX3_fewestOfAllSets 47 = .ok (.istore 5, 2) := by decide +kernel
theorem dX3_fewestOfAllSets_49 : decode cX3_fewestOfAllSets 49 = .ok (.goto 16, 3) := by decide +kernel
theorem dX3_fewestOfAllSets_52 : decode cX3_fewestOfAllSets 52 = .ok (.aload_n 0, 1) := by decide +kernel
theorem dX3_fewestOfAllSets_53 : decode cX3_fewestOfAllSets 53 = .ok (.getfield 38, 3) := by decide +kernel
theorem dX3_fewestOfAllSets_56 : decode cX3_fewestOfAllSets 56 = .ok (.iload 6, 2) := by decide +kernel
theorem dX3_fewestOfAllSets_58 : decode cX3_fewestOfAllSets 58 = .ok (.iaload, 1) := by decide +kernel
theorem dX3_fewestOfAllSets_59 : decode cX3_fewestOfAllSets 59 = .ok (.ifCond .le 6, 3) := by decide +kernel
theorem dX3_fewestOfAllSets_62 : decode cX3_fewestOfAllSets 62 = .ok (.iinc 4 1, 3) := by decide +kernel
theorem dX3_fewestOfAllSets_65 : decode cX3_fewestOfAllSets 65 = .ok (.iinc 6 1, 3) := by decide +kernel
theorem dX3_fewestOfAllSets_68 : decode cX3_fewestOfAllSets 68 = .ok (.goto (-47), 3) := by decide +kernel
theorem dX3_fewestOfAllSets_71 : decode cX3_fewestOfAllSets 71 = .ok (.iload 5, 2) := by decide +kernel
theorem dX3_fewestOfAllSets_73 : decode cX3_fewestOfAllSets 73 = .ok (.iload_n 1, 1) := by decide +kernel
theorem dX3_fewestOfAllSets_74 : decode cX3_fewestOfAllSets 74 = .ok (.if_icmp .gt 12, 3) := by decide +kernel
theorem dX3_fewestOfAllSets_77 : decode cX3_fewestOfAllSets 77 = .ok (.iload 4, 2) := by decide +kernel
theorem dX3_fewestOfAllSets_79 : decode cX3_fewestOfAllSets 79 = .ok (.iload_n 2, 1) := by decide +kernel
theorem dX3_fewestOfAllSets_80 : decode cX3_fewestOfAllSets 80 = .ok (.if_icmp .ge 6, 3) := by decide +kernel
theorem dX3_fewestOfAllSets_83 : decode cX3_fewestOfAllSets 83 = .ok (.iload 4, 2) := by decide +kernel
theorem dX3_fewestOfAllSets_85 : decode cX3_fewestOfAllSets 85 = .ok (.istore_n 2, 1) := by decide +kernel
theorem dX3_fewestOfAllSets_86 : decode cX3_fewestOfAllSets 86 = .ok (.iinc 3 1, 3) := by decide +kernel
theorem dX3_fewestOfAllSets_89 : decode cX3_fewestOfAllSets 89 = .ok (.goto (-84), 3) := by decide +kernel
theorem dX3_fewestOfAllSets_92 : decode cX3_fewestOfAllSets 92 = .ok (.iload_n 2, 1) := by decide +kernel
theorem dX3_fewestOfAllSets_93 : decode cX3_fewestOfAllSets 93 = .ok (.ireturn, 1) := by decide +kernel
set_option maxRecDepth 20000 in
theorem ggX3_differencesIfTurned_X0_traceAt : GoodIn wsX3_differencesIfTurned wsX0_traceAt := goodIn_r _ [9, 10, 11, 12, 7, 13, 14, 15, 16, 17, 18, 19, 20, 21, 22, 23, 24, 25, 26, 27, 28, 29, 36, 37, 38, 39] (by decide +kernel) (by decide +kernel)
set_option maxRecDepth 20000 in
theorem gX3_differencesIfTurned_X0_traceAt_n96 : GoodIn wsX3_differencesIfTurned (wsX0_traceAt) := ggX3_differencesIfTurned_X0_traceAt
theorem dX3_differencesIfTurned_0 : decode cX3_differencesIfTurned 0 = .ok (.iconst 0, 1) := by decide +kernel
theorem dX3_differencesIfTurned_1 : decode cX3_differencesIfTurned 1 = .ok (.istore_n 2, 1) := by decide +kernel
theorem dX3_differencesIfTurned_2 : decode cX3_differencesIfTurned 2 = .ok (.iconst 0, 1) := by decide +kernel
theorem dX3_differencesIfTurned_3 : decode cX3_differencesIfTurned 3 = .ok (.istore_n 3, 1) := by decide +kernel
theorem dX3_differencesIfTurned_4 : decode cX3_differencesIfTurned 4 = .ok (.iload_n 3, 1) := by decide +kernel
theorem dX3_differencesIfTurned_5 : decode cX3_differencesIfTurned 5 = .ok (.bipush 8, 2) := by decide +kernel
theorem dX3_differencesIfTurned_7 : decode cX3_differencesIfTurned 7 = .ok (.if_icmp .ge 35, 3) := by decide +kernel
theorem dX3_differencesIfTurned_10 : decode cX3_differencesIfTurned 10 = .ok (.iload_n 2, 1) := by decide +kernel
theorem dX3_differencesIfTurned_11 : decode cX3_differencesIfTurned 11 = .ok (.aload_n 0, 1) := by decide +kernel
theorem dX3_differencesIfTurned_12 : decode cX3_differencesIfTurned 12 = .ok (.getfield 12, 3) := by decide +kernel
theorem dX3_differencesIfTurned_15 : decode cX3_differencesIfTurned 15 = .ok (.getfield 93, 3) := by decide +kernel
theorem dX3_differencesIfTurned_18 : decode cX3_differencesIfTurned 18 = .ok (.iload_n 3, 1) := by decide +kernel
theorem dX3_differencesIfTurned_19 : decode cX3_differencesIfTurned 19 = .ok (.iaload, 1) := by decide +kernel
theorem dX3_differencesIfTurned_20 : decode cX3_differencesIfTurned 20 = .ok (.aload_n 0, 1) := by decide +kernel
theorem dX3_differencesIfTurned_21 : decode cX3_differencesIfTurned 21 = .ok (.getfield 12, 3) := by decide +kernel
theorem dX3_differencesIfTurned_24 : decode cX3_differencesIfTurned 24 = .ok (.iload_n 3, 1) := by decide +kernel
theorem dX3_differencesIfTurned_25 : decode cX3_differencesIfTurned 25 = .ok (.iload_n 1, 1) := by decide +kernel
theorem dX3_differencesIfTurned_26 : decode cX3_differencesIfTurned 26 = .ok (.ixor, 1) := by decide +kernel
theorem dX3_differencesIfTurned_27 : decode cX3_differencesIfTurned 27 = .ok (.invokevirtual 96, 3) := by decide +kernel
theorem dX3_differencesIfTurned_30 : decode cX3_differencesIfTurned 30 = .ok (.isub, 1) := by decide +kernel
theorem dX3_differencesIfTurned_31 : decode cX3_differencesIfTurned 31 = .ok (.invokestatic 83, 3) := by decide +kernel
theorem dX3_differencesIfTurned_34 : decode cX3_differencesIfTurned 34 = .ok (.iadd, 1) := by decide +kernel
theorem dX3_differencesIfTurned_35 : decode cX3_differencesIfTurned 35 = .ok (.istore_n 2, 1) := by decide +kernel
theorem dX3_differencesIfTurned_36 : decode cX3_differencesIfTurned 36 = .ok (.iinc 3 1, 3) := by decide +kernel
theorem dX3_differencesIfTurned_39 : decode cX3_differencesIfTurned 39 = .ok (.goto (-35), 3) := by decide +kernel
theorem dX3_differencesIfTurned_42 : decode cX3_differencesIfTurned 42 = .ok (.iload_n 2, 1) := by decide +kernel
theorem dX3_differencesIfTurned_43 : decode cX3_differencesIfTurned 43 = .ok (.ireturn, 1) := by decide +kernel
theorem dJ6_bitCount_0f7a4_0 : decode cJ6_bitCount_0f7a4 0 = .ok (.iload_n 0, 1) := by decide +kernel
theorem dJ6_bitCount_0f7a4_1 : decode cJ6_bitCount_0f7a4 1 = .ok (.iload_n 0, 1) := by decide +kernel
theorem dJ6_bitCount_0f7a4_2 : decode cJ6_bitCount_0f7a4 2 = .ok (.iconst 1, 1) := by decide +kernel
theorem dJ6_bitCount_0f7a4_3 : decode cJ6_bitCount_0f7a4 3 = .ok (.iushr, 1) := by decide +kernel
theorem dJ6_bitCount_0f7a4_4 : decode cJ6_bitCount_0f7a4 4 = .ok (.ldc_w 265, 3) := by decide +kernel
theorem dJ6_bitCount_0f7a4_7 : decode cJ6_bitCount_0f7a4 7 = .ok (.iand, 1) := by decide +kernel
theorem dJ6_bitCount_0f7a4_8 : decode cJ6_bitCount_0f7a4 8 = .ok (.isub, 1) := by decide +kernel
theorem dJ6_bitCount_0f7a4_9 : decode cJ6_bitCount_0f7a4 9 = .ok (.istore_n 0, 1) := by decide +kernel
theorem dJ6_bitCount_0f7a4_10 : decode cJ6_bitCount_0f7a4 10 = .ok (.iload_n 0, 1) := by decide +kernel
theorem dJ6_bitCount_0f7a4_11 : decode cJ6_bitCount_0f7a4 11 = .ok (.ldc_w 266, 3) := by decide +kernel
theorem dJ6_bitCount_0f7a4_14 : decode cJ6_bitCount_0f7a4 14 = .ok (.iand, 1) := by decide +kernel
theorem dJ6_bitCount_0f7a4_15 : decode cJ6_bitCount_0f7a4 15 = .ok (.iload_n 0, 1) := by decide +kernel
theorem dJ6_bitCount_0f7a4_16 : decode cJ6_bitCount_0f7a4 16 = .ok (.iconst 2, 1) := by decide +kernel
theorem dJ6_bitCount_0f7a4_17 : decode cJ6_bitCount_0f7a4 17 = .ok (.iushr, 1) := by decide +kernel
theorem dJ6_bitCount_0f7a4_18 : decode cJ6_bitCount_0f7a4 18 = .ok (.ldc_w 266, 3) := by decide +kernel
theorem dJ6_bitCount_0f7a4_21 : decode cJ6_bitCount_0f7a4 21 = .ok (.iand, 1) := by decide +kernel
theorem dJ6_bitCount_0f7a4_22 : decode cJ6_bitCount_0f7a4 22 = .ok (.iadd, 1) := by decide +kernel
theorem dJ6_bitCount_0f7a4_23 : decode cJ6_bitCount_0f7a4 23 = .ok (.istore_n 0, 1) := by decide +kernel
theorem dJ6_bitCount_0f7a4_24 : decode cJ6_bitCount_0f7a4 24 = .ok (.iload_n 0, 1) := by decide +kernel
theorem dJ6_bitCount_0f7a4_25 : decode cJ6_bitCount_0f7a4 25 = .ok (.iload_n 0, 1) := by decide +kernel
theorem dJ6_bitCount_0f7a4_26 : decode cJ6_bitCount_0f7a4 26 = .ok (.iconst 4, 1) := by decide +kernel
theorem dJ6_bitCount_0f7a4_27 : decode cJ6_bitCount_0f7a4 27 = .ok (.iushr, 1) := by decide +kernel
theorem dJ6_bitCount_0f7a4_28 : decode cJ6_bitCount_0f7a4 28 = .ok (.iadd, 1) := by decide +kernel
theorem dJ6_bitCount_0f7a4_29 : decode cJ6_bitCount_0f7a4 29 = .ok (.ldc_w 267, 3) := by decide +kernel
theorem dJ6_bitCount_0f7a4_32 : decode cJ6_bitCount_0f7a4 32 = .ok (.iand, 1) := by decide +kernel
theorem dJ6_bitCount_0f7a4_33 : decode cJ6_bitCount_0f7a4 33 = .ok (.istore_n 0, 1) := by decide +kernel
theorem dJ6_bitCount_0f7a4_34 : decode cJ6_bitCount_0f7a4 34 = .ok (.iload_n 0, 1) := by decide +kernel
theorem dJ6_bitCount_0f7a4_35 : decode cJ6_bitCount_0f7a4 35 = .ok (.iload_n 0, 1) := by decide +kernel
theorem dJ6_bitCount_0f7a4_36 : decode cJ6_bitCount_0f7a4 36 = .ok (.bipush 8, 2) := by decide +kernel
theorem dJ6_bitCount_0f7a4_38 : decode cJ6_bitCount_0f7a4 38 = .ok (.iushr, 1) := by decide +kernel
theorem dJ6_bitCount_0f7a4_39 : decode cJ6_bitCount_0f7a4 39 = .ok (.iadd, 1) := by decide +kernel
theorem dJ6_bitCount_0f7a4_40 : decode cJ6_bitCount_0f7a4 40 = .ok (.istore_n 0, 1) := by decide +kernel
theorem dJ6_bitCount_0f7a4_41 : decode cJ6_bitCount_0f7a4 41 = .ok (.iload_n 0, 1) := by decide +kernel
theorem dJ6_bitCount_0f7a4_42 : decode cJ6_bitCount_0f7a4 42 = .ok (.iload_n 0, 1) := by decide +kernel
theorem dJ6_bitCount_0f7a4_43 : decode cJ6_bitCount_0f7a4 43 = .ok (.bipush 16, 2) := by decide +kernel
theorem dJ6_bitCount_0f7a4_45 : decode cJ6_bitCount_0f7a4 45 = .ok (.iushr, 1) := by decide +kernel
theorem dJ6_bitCount_0f7a4_46 : decode cJ6_bitCount_0f7a4 46 = .ok (.iadd, 1) := by decide +kernel
theorem dJ6_bitCount_0f7a4_47 : decode cJ6_bitCount_0f7a4 47 = .ok (.istore_n 0, 1) := by decide +kernel
theorem dJ6_bitCount_0f7a4_48 : decode cJ6_bitCount_0f7a4 48 = .ok (.iload_n 0, 1) := by decide +kernel
theorem dJ6_bitCount_0f7a4_49 : decode cJ6_bitCount_0f7a4 49 = .ok (.bipush 63, 2) := by decide +kernel
theorem dJ6_bitCount_0f7a4_51 : decode cJ6_bitCount_0f7a4 51 = .ok (.iand, 1) := by decide +kernel
theorem dJ6_bitCount_0f7a4_52 : decode cJ6_bitCount_0f7a4 52 = .ok (.ireturn, 1) := by decide +kernel
theorem dJ9_floorDiv_7cf53_0 : decode cJ9_floorDiv_7cf53 0 = .ok (.iload_n 0, 1) := by decide +kernel
theorem dJ9_floorDiv_7cf53_1 : decode cJ9_floorDiv_7cf53 1 = .ok (.iload_n 1, 1) := by decide +kernel
theorem dJ9_floorDiv_7cf53_2 : decode cJ9_floorDiv_7cf53 2 = .ok (.idiv, 1) := by decide +kernel
theorem dJ9_floorDiv_7cf53_3 : decode cJ9_floorDiv_7cf53 3 = .ok (.istore_n 2, 1) := by decide +kernel
theorem dJ9_floorDiv_7cf53_4 : decode cJ9_floorDiv_7cf53 4 = .ok (.iload_n 0, 1) := by decide +kernel
theorem dJ9_floorDiv_7cf53_5 : decode cJ9_floorDiv_7cf53 5 = .ok (.iload_n 1, 1) := by decide +kernel
theorem dJ9_floorDiv_7cf53_6 : decode cJ9_floorDiv_7cf53 6 = .ok (.ixor, 1) := by decide +kernel
theorem dJ9_floorDiv_7cf53_7 : decode cJ9_floorDiv_7cf53 7 = .ok (.ifCond .ge 14, 3) := by decide +kernel
theorem dJ9_floorDiv_7cf53_10 : decode cJ9_floorDiv_7cf53 10 = .ok (.iload_n 2, 1) := by decide +kernel
theorem dJ9_floorDiv_7cf53_11 : decode cJ9_floorDiv_7cf53 11 = .ok (.iload_n 1, 1) := by decide +kernel
theorem dJ9_floorDiv_7cf53_12 : decode cJ9_floorDiv_7cf53 12 = .ok (.imul, 1) := by decide +kernel
theorem dJ9_floorDiv_7cf53_13 : decode cJ9_floorDiv_7cf53 13 = .ok (.iload_n 0, 1) := by decide +kernel
theorem dJ9_floorDiv_7cf53_14 : decode cJ9_floorDiv_7cf53 14 = .ok (.if_icmp .eq 7, 3) := by decide +kernel
theorem dJ9_floorDiv_7cf53_17 : decode cJ9_floorDiv_7cf53 17 = .ok (.iload_n 2, 1) := by decide +kernel
theorem dJ9_floorDiv_7cf53_18 : decode cJ9_floorDiv_7cf53 18 = .ok (.iconst 1, 1) := by decide +kernel
theorem dJ9_floorDiv_7cf53_19 : decode cJ9_floorDiv_7cf53 19 = .ok (.isub, 1) := by decide +kernel
theorem dJ9_floorDiv_7cf53_20 : decode cJ9_floorDiv_7cf53 20 = .ok (.ireturn, 1) := by decide +kernel
theorem dJ9_floorDiv_7cf53_21 : decode cJ9_floorDiv_7cf53 21 = .ok (.iload_n 2, 1) := by decide +kernel
theorem dJ9_floorDiv_7cf53_22 : decode cJ9_floorDiv_7cf53 22 = .ok (.ireturn, 1) := by decide +kernel
theorem dJ9_abs_0f7a4_0 : decode cJ9_abs_0f7a4 0 = .ok (.iload_n 0, 1) := by decide +kernel
theorem dJ9_abs_0f7a4_1 : decode cJ9_abs_0f7a4 1 = .ok (.ifCond .ge 8, 3) := by decide +kernel
theorem dJ9_abs_0f7a4_4 : decode cJ9_abs_0f7a4 4 = .ok (.iload_n 0, 1) := by decide +kernel
theorem dJ9_abs_0f7a4_5 : decode cJ9_abs_0f7a4 5 = .ok (.ineg, 1) := by decide +kernel
theorem dJ9_abs_0f7a4_6 : decode cJ9_abs_0f7a4 6 = .ok (.goto 4, 3) := by decide +kernel
theorem dJ9_abs_0f7a4_9 : decode cJ9_abs_0f7a4 9 = .ok (.iload_n 0, 1) := by decide +kernel
theorem dJ9_abs_0f7a4_10 : decode cJ9_abs_0f7a4 10 = .ok (.ireturn, 1) := by decide +kernel
theorem dJ9_max_7cf53_0 : decode cJ9_max_7cf53 0 = .ok (.iload_n 0, 1) := by decide +kernel
theorem dJ9_max_7cf53_1 : decode cJ9_max_7cf53 1 = .ok (.iload_n 1, 1) := by decide +kernel
theorem dJ9_max_7cf53_2 : decode cJ9_max_7cf53 2 = .ok (.if_icmp .lt 7, 3) := by decide +kernel
theorem dJ9_max_7cf53_5 : decode cJ9_max_7cf53 5 = .ok (.iload_n 0, 1) := by decide +kernel
theorem dJ9_max_7cf53_6 : decode cJ9_max_7cf53 6 = .ok (.goto 4, 3) := by decide +kernel
theorem dJ9_max_7cf53_9 : decode cJ9_max_7cf53 9 = .ok (.iload_n 1, 1) := by decide +kernel
theorem dJ9_max_7cf53_10 : decode cJ9_max_7cf53 10 = .ok (.ireturn, 1) := by decide +kernel
theorem dJ9_min_7cf53_0 : decode cJ9_min_7cf53 0 = .ok (.iload_n 0, 1) := by decide +kernel
theorem dJ9_min_7cf53_1 : decode cJ9_min_7cf53 1 = .ok (.iload_n 1, 1) := by decide +kernel
theorem dJ9_min_7cf53_2 : decode cJ9_min_7cf53 2 = .ok (.if_icmp .gt 7, 3) := by decide +kernel
theorem dJ9_min_7cf53_5 : decode cJ9_min_7cf53 5 = .ok (.iload_n 0, 1) := by decide +kernel
theorem dJ9_min_7cf53_6 : decode cJ9_min_7cf53 6 = .ok (.goto 4, 3) := by decide +kernel
theorem dJ9_min_7cf53_9 : decode cJ9_min_7cf53 9 = .ok (.iload_n 1, 1) := by decide +kernel
theorem dJ9_min_7cf53_10 : decode cJ9_min_7cf53 10 = .ok (.ireturn, 1) := by decide +kernel

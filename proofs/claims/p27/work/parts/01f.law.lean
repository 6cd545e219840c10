theorem dL_cell_0 : decode cL_cell 0 = .ok (.iload_n 1, 1) := by decide +kernel
theorem dL_cell_1 : decode cL_cell 1 = .ok (.aload_n 0, 1) := by decide +kernel
theorem dL_cell_2 : decode cL_cell 2 = .ok (.arraylength, 1) := by decide +kernel
theorem dL_cell_3 : decode cL_cell 3 = .ok (.if_icmp .ge 9, 3) := by decide +kernel
theorem dL_cell_6 : decode cL_cell 6 = .ok (.aload_n 0, 1) := by decide +kernel
theorem dL_cell_7 : decode cL_cell 7 = .ok (.iload_n 1, 1) := by decide +kernel
theorem dL_cell_8 : decode cL_cell 8 = .ok (.iaload, 1) := by decide +kernel
theorem dL_cell_9 : decode cL_cell 9 = .ok (.goto 9, 3) := by decide +kernel
theorem dL_cell_12 : decode cL_cell 12 = .ok (.ldc 7, 2) := by decide +kernel
theorem dL_cell_14 : decode cL_cell 14 = .ok (.iload_n 1, 1) := by decide +kernel
theorem dL_cell_15 : decode cL_cell 15 = .ok (.iconst 1, 1) := by decide +kernel
theorem dL_cell_16 : decode cL_cell 16 = .ok (.iadd, 1) := by decide +kernel
theorem dL_cell_17 : decode cL_cell 17 = .ok (.imul, 1) := by decide +kernel
theorem dL_cell_18 : decode cL_cell 18 = .ok (.ireturn, 1) := by decide +kernel
theorem dL_low_0 : decode cL_low 0 = .ok (.iload_n 0, 1) := by decide +kernel
theorem dL_low_1 : decode cL_low 1 = .ok (.ldc 8, 2) := by decide +kernel
theorem dL_low_3 : decode cL_low 3 = .ok (.iand, 1) := by decide +kernel
theorem dL_low_4 : decode cL_low 4 = .ok (.iload_n 1, 1) := by decide +kernel
theorem dL_low_5 : decode cL_low 5 = .ok (.irem, 1) := by decide +kernel
theorem dL_low_6 : decode cL_low 6 = .ok (.ireturn, 1) := by decide +kernel
set_option maxRecDepth 20000 in
theorem ggL_set_X3_set : GoodIn wsL_set wsX3_set := goodIn_ca (goodIn_ca (goodIn_r _ [7, 8, 9, 10, 11, 12, 13, 14, 15, 6, 16, 17, 18, 19, 20, 21, 22, 23, 24, 25, 26, 27, 28, 29, 30, 31, 32, 33, 34, 35, 36, 37, 38, 39, 40, 41, 42, 43, 44, 45, 46, 47, 48, 49, 50, 51, 52, 53, 54, 55] (by decide +kernel) (by decide +kernel)) (goodIn_sub (fun _ h => List.mem_cons_of_mem _ (List.mem_append_left _ (List.mem_append_right _ h))) (by decide +kernel))) (goodIn_sub (fun _ h => List.mem_cons_of_mem _ (List.mem_append_right _ h)) (by decide +kernel))
set_option maxRecDepth 20000 in
theorem gL_set_X3_set : GoodIn wsL_set (wsV RL 9 RX3 yX3_set wsX3_set) := goodIn_app (goodIn_of _ (by decide +kernel)) ggL_set_X3_set
theorem dL_set_0 : decode cL_set 0 = .ok (.aload_n 0, 1) := by decide +kernel
theorem dL_set_1 : decode cL_set 1 = .ok (.iload_n 1, 1) := by decide +kernel
theorem dL_set_2 : decode cL_set 2 = .ok (.iload_n 2, 1) := by decide +kernel
theorem dL_set_3 : decode cL_set 3 = .ok (.invokevirtual 9, 3) := by decide +kernel
theorem dL_set_6 : decode cL_set 6 = .ok (.istore_n 3, 1) := by decide +kernel
theorem dL_set_7 : decode cL_set 7 = .ok (.goto 13, 3) := by decide +kernel
theorem dL_set_10 : decode cL_set 10 = .ok (.astore 4, 2) := by decide +kernel
theorem dL_set_12 : decode cL_set 12 = .ok (.bipush (-31), 2) := by decide +kernel
theorem dL_set_14 : decode cL_set 14 = .ok (.ireturn, 1) := by decide +kernel
theorem dL_set_15 : decode cL_set 15 = .ok (.astore 4, 2) := by decide +kernel
theorem dL_set_17 : decode cL_set 17 = .ok (.bipush (-32), 2) := by decide +kernel
theorem dL_set_19 : decode cL_set 19 = .ok (.ireturn, 1) := by decide +kernel
theorem dL_set_20 : decode cL_set 20 = .ok (.iload_n 3, 1) := by decide +kernel
theorem dL_set_21 : decode cL_set 21 = .ok (.ireturn, 1) := by decide +kernel
set_option maxRecDepth 20000 in
theorem ggL_lose_X3_lose : GoodIn wsL_lose wsX3_lose := goodIn_ca (goodIn_r _ [6, 7, 8, 9, 10, 11, 12, 5, 13, 14, 15, 16, 17, 18, 19, 20, 21, 22, 23, 24, 25, 26, 27, 28, 29, 30, 31, 32, 33, 34, 35, 36, 37, 38, 39, 40, 41, 42, 43, 44, 45, 46, 47, 48, 49, 50, 51, 52, 53, 54, 55] (by decide +kernel) (by decide +kernel)) (goodIn_sub (fun _ h => List.mem_cons_of_mem _ (List.mem_append_right _ h)) (by decide +kernel))
set_option maxRecDepth 20000 in
theorem gL_lose_X3_lose : GoodIn wsL_lose (wsV RL 19 RX3 yX3_lose wsX3_lose) := goodIn_app (goodIn_of _ (by decide +kernel)) ggL_lose_X3_lose
theorem dL_lose_0 : decode cL_lose 0 = .ok (.aload_n 0, 1) := by decide +kernel
theorem dL_lose_1 : decode cL_lose 1 = .ok (.iload_n 1, 1) := by decide +kernel
theorem dL_lose_2 : decode cL_lose 2 = .ok (.invokevirtual 19, 3) := by decide +kernel
theorem dL_lose_5 : decode cL_lose 5 = .ok (.istore_n 2, 1) := by decide +kernel
theorem dL_lose_6 : decode cL_lose 6 = .ok (.goto 7, 3) := by decide +kernel
theorem dL_lose_9 : decode cL_lose 9 = .ok (.astore_n 3, 1) := by decide +kernel
theorem dL_lose_10 : decode cL_lose 10 = .ok (.bipush (-31), 2) := by decide +kernel
theorem dL_lose_12 : decode cL_lose 12 = .ok (.ireturn, 1) := by decide +kernel
theorem dL_lose_13 : decode cL_lose 13 = .ok (.iload_n 2, 1) := by decide +kernel
theorem dL_lose_14 : decode cL_lose 14 = .ok (.ireturn, 1) := by decide +kernel
set_option maxRecDepth 20000 in
theorem ggL_turn_X3_turn : GoodIn wsL_turn wsX3_turn := goodIn_ca (goodIn_r _ [6, 7, 8, 9, 10, 11, 12, 5, 13, 14, 15, 16, 17, 18, 19, 20, 21, 22, 23, 24, 25, 26, 27, 28, 29, 30, 31, 32, 33, 34, 35, 36, 37, 38, 39, 40, 41, 42, 43, 44, 45, 46, 47, 48, 49, 50, 51, 52, 53, 54, 55, 56, 57, 58, 59, 60, 61, 62] (by decide +kernel) (by decide +kernel)) (goodIn_sub (fun _ h => List.mem_cons_of_mem _ (List.mem_append_right _ h)) (by decide +kernel))
set_option maxRecDepth 20000 in
theorem gL_turn_X3_turn : GoodIn wsL_turn (wsV RL 23 RX3 yX3_turn wsX3_turn) := goodIn_app (goodIn_of _ (by decide +kernel)) ggL_turn_X3_turn
theorem dL_turn_0 : decode cL_turn 0 = .ok (.aload_n 0, 1) := by decide +kernel
theorem dL_turn_1 : decode cL_turn 1 = .ok (.iload_n 1, 1) := by decide +kernel
theorem dL_turn_2 : decode cL_turn 2 = .ok (.invokevirtual 23, 3) := by decide +kernel
theorem dL_turn_5 : decode cL_turn 5 = .ok (.istore_n 2, 1) := by decide +kernel
theorem dL_turn_6 : decode cL_turn 6 = .ok (.goto 7, 3) := by decide +kernel
theorem dL_turn_9 : decode cL_turn 9 = .ok (.astore_n 3, 1) := by decide +kernel
theorem dL_turn_10 : decode cL_turn 10 = .ok (.bipush (-32), 2) := by decide +kernel
theorem dL_turn_12 : decode cL_turn 12 = .ok (.ireturn, 1) := by decide +kernel
theorem dL_turn_13 : decode cL_turn 13 = .ok (.iload_n 2, 1) := by decide +kernel
theorem dL_turn_14 : decode cL_turn 14 = .ok (.ireturn, 1) := by decide +kernel
set_option maxRecDepth 20000 in
theorem ggL_drop_X3_drop : GoodIn wsL_drop wsX3_drop := goodIn_ca (goodIn_r _ [6, 7, 8, 9, 10, 11, 12, 13, 14, 15, 16, 5, 17, 18, 19, 20, 21, 22, 23, 24, 25, 26, 27, 28, 29, 30, 31, 32, 33, 34, 35, 36, 37, 38, 39, 40, 41, 42, 43, 44, 45, 46, 47, 48, 49, 50, 51, 52] (by decide +kernel) (by decide +kernel)) (goodIn_sub (fun _ h => List.mem_cons_of_mem _ (List.mem_append_right _ h)) (by decide +kernel))
set_option maxRecDepth 20000 in
theorem gL_drop_X3_drop : GoodIn wsL_drop (wsV RL 26 RX3 yX3_drop wsX3_drop) := goodIn_app (goodIn_of _ (by decide +kernel)) ggL_drop_X3_drop
theorem dL_drop_0 : decode cL_drop 0 = .ok (.aload_n 0, 1) := by decide +kernel
theorem dL_drop_1 : decode cL_drop 1 = .ok (.iload_n 1, 1) := by decide +kernel
theorem dL_drop_2 : decode cL_drop 2 = .ok (.invokevirtual 26, 3) := by decide +kernel
theorem dL_drop_5 : decode cL_drop 5 = .ok (.istore_n 2, 1) := by decide +kernel
theorem dL_drop_6 : decode cL_drop 6 = .ok (.goto 7, 3) := by decide +kernel
theorem dL_drop_9 : decode cL_drop 9 = .ok (.astore_n 3, 1) := by decide +kernel
theorem dL_drop_10 : decode cL_drop 10 = .ok (.bipush (-32), 2) := by decide +kernel
theorem dL_drop_12 : decode cL_drop 12 = .ok (.ireturn, 1) := by decide +kernel
theorem dL_drop_13 : decode cL_drop 13 = .ok (.iload_n 2, 1) := by decide +kernel
theorem dL_drop_14 : decode cL_drop 14 = .ok (.ireturn, 1) := by decide +kernel
set_option maxRecDepth 20000 in
theorem ggL_point_X3_point : GoodIn wsL_point wsX3_point := goodIn_ca (goodIn_ca (goodIn_r _ [7, 8, 9, 10, 11, 12, 13, 14, 15, 6, 16, 17, 18, 19, 20, 21, 22, 23, 24, 25, 26, 27, 28, 29, 30, 31, 32, 33, 34, 35, 36, 37, 38, 39, 40, 41, 42, 43, 44, 45, 46, 47, 48, 49, 50, 51, 52, 53, 54, 55] (by decide +kernel) (by decide +kernel)) (goodIn_sub (fun _ h => List.mem_cons_of_mem _ (List.mem_append_left _ (List.mem_append_right _ h))) (by decide +kernel))) (goodIn_sub (fun _ h => List.mem_cons_of_mem _ (List.mem_append_right _ h)) (by decide +kernel))
set_option maxRecDepth 20000 in
theorem gL_point_X3_point : GoodIn wsL_point (wsV RL 29 RX3 yX3_point wsX3_point) := goodIn_app (goodIn_of _ (by decide +kernel)) ggL_point_X3_point
theorem dL_point_0 : decode cL_point 0 = .ok (.aload_n 0, 1) := by decide +kernel
theorem dL_point_1 : decode cL_point 1 = .ok (.iload_n 1, 1) := by decide +kernel
theorem dL_point_2 : decode cL_point 2 = .ok (.iload_n 2, 1) := by decide +kernel
theorem dL_point_3 : decode cL_point 3 = .ok (.invokevirtual 29, 3) := by decide +kernel
theorem dL_point_6 : decode cL_point 6 = .ok (.istore_n 3, 1) := by decide +kernel
theorem dL_point_7 : decode cL_point 7 = .ok (.goto 13, 3) := by decide +kernel
theorem dL_point_10 : decode cL_point 10 = .ok (.astore 4, 2) := by decide +kernel
theorem dL_point_12 : decode cL_point 12 = .ok (.bipush (-31), 2) := by decide +kernel
theorem dL_point_14 : decode cL_point 14 = .ok (.ireturn, 1) := by decide +kernel
theorem dL_point_15 : decode cL_point 15 = .ok (.astore 4, 2) := by decide +kernel
theorem dL_point_17 : decode cL_point 17 = .ok (.bipush (-32), 2) := by decide +kernel
theorem dL_point_19 : decode cL_point 19 = .ok (.ireturn, 1) := by decide +kernel
theorem dL_point_20 : decode cL_point 20 = .ok (.iload_n 3, 1) := by decide +kernel
theorem dL_point_21 : decode cL_point 21 = .ok (.ireturn, 1) := by decide +kernel
set_option maxRecDepth 20000 in
theorem ggL_undo_X3_undo : GoodIn wsL_undo wsX3_undo := goodIn_ca (goodIn_r _ [6, 7, 8, 9, 10, 11, 12, 13, 14, 15, 16, 17, 18, 19, 20, 21, 22, 23, 24, 25, 26, 27, 28, 29, 30, 31, 32, 33, 34, 35, 36, 37, 38, 39, 40, 41, 42] (by decide +kernel) (by decide +kernel)) (goodIn_sub (fun _ h => List.mem_cons_of_mem _ (List.mem_append_right _ h)) (by decide +kernel))
set_option maxRecDepth 20000 in
theorem gL_undo_X3_undo : GoodIn wsL_undo (wsV RL 32 RX3 yX3_undo wsX3_undo) := goodIn_app (goodIn_of _ (by decide +kernel)) ggL_undo_X3_undo
theorem dL_undo_0 : decode cL_undo 0 = .ok (.aload_n 0, 1) := by decide +kernel
theorem dL_undo_1 : decode cL_undo 1 = .ok (.invokevirtual 32, 3) := by decide +kernel
theorem dL_undo_4 : decode cL_undo 4 = .ok (.istore_n 1, 1) := by decide +kernel
theorem dL_undo_5 : decode cL_undo 5 = .ok (.goto 7, 3) := by decide +kernel
theorem dL_undo_8 : decode cL_undo 8 = .ok (.astore_n 2, 1) := by decide +kernel
theorem dL_undo_9 : decode cL_undo 9 = .ok (.bipush (-33), 2) := by decide +kernel
theorem dL_undo_11 : decode cL_undo 11 = .ok (.ireturn, 1) := by decide +kernel
theorem dL_undo_12 : decode cL_undo 12 = .ok (.iload_n 1, 1) := by decide +kernel
theorem dL_undo_13 : decode cL_undo 13 = .ok (.ireturn, 1) := by decide +kernel
set_option maxRecDepth 20000 in
theorem ggL_wheelOf_X3_wheelOf : GoodIn wsL_wheelOf wsX3_wheelOf := goodIn_ca (goodIn_ca (goodIn_r _ [7, 8, 9, 10, 11, 12, 13, 6, 14, 15, 16, 17, 18, 19, 20, 21, 22, 23, 24, 25, 26, 27, 28, 29, 30, 31, 32, 33, 34, 35, 36, 37, 38, 39, 40, 41, 42, 43, 44, 45, 46, 47, 48, 49, 50, 51, 52, 53, 54, 55, 56, 57, 58] (by decide +kernel) (by decide +kernel)) (goodIn_sub (fun _ h => List.mem_cons_of_mem _ (List.mem_append_left _ (List.mem_append_right _ h))) (by decide +kernel))) (goodIn_sub (fun _ h => List.mem_cons_of_mem _ (List.mem_append_right _ h)) (by decide +kernel))
set_option maxRecDepth 20000 in
theorem gL_wheelOf_X3_wheelOf : GoodIn wsL_wheelOf (wsV RL 38 RX3 yX3_wheelOf wsX3_wheelOf) := goodIn_app (goodIn_of _ (by decide +kernel)) ggL_wheelOf_X3_wheelOf
theorem dL_wheelOf_0 : decode cL_wheelOf 0 = .ok (.aload_n 0, 1) := by decide +kernel
theorem dL_wheelOf_1 : decode cL_wheelOf 1 = .ok (.iload_n 1, 1) := by decide +kernel
theorem dL_wheelOf_2 : decode cL_wheelOf 2 = .ok (.iload_n 2, 1) := by decide +kernel
theorem dL_wheelOf_3 : decode cL_wheelOf 3 = .ok (.invokevirtual 38, 3) := by decide +kernel
theorem dL_wheelOf_6 : decode cL_wheelOf 6 = .ok (.istore_n 3, 1) := by decide +kernel
theorem dL_wheelOf_7 : decode cL_wheelOf 7 = .ok (.goto 13, 3) := by decide +kernel
theorem dL_wheelOf_10 : decode cL_wheelOf 10 = .ok (.astore 4, 2) := by decide +kernel
theorem dL_wheelOf_12 : decode cL_wheelOf 12 = .ok (.bipush (-31), 2) := by decide +kernel
theorem dL_wheelOf_14 : decode cL_wheelOf 14 = .ok (.ireturn, 1) := by decide +kernel
theorem dL_wheelOf_15 : decode cL_wheelOf 15 = .ok (.astore 4, 2) := by decide +kernel
theorem dL_wheelOf_17 : decode cL_wheelOf 17 = .ok (.bipush (-32), 2) := by decide +kernel
theorem dL_wheelOf_19 : decode cL_wheelOf 19 = .ok (.ireturn, 1) := by decide +kernel
theorem dL_wheelOf_20 : decode cL_wheelOf 20 = .ok (.iload_n 3, 1) := by decide +kernel
theorem dL_wheelOf_21 : decode cL_wheelOf 21 = .ok (.ireturn, 1) := by decide +kernel
set_option maxRecDepth 20000 in
theorem ggL_trace_X3_trace : GoodIn wsL_trace wsX3_trace := goodIn_ca (goodIn_ca (goodIn_r _ [7, 8, 9, 10, 11, 12, 13, 6, 14, 15, 16, 17, 18, 19, 20, 21, 22, 23, 24, 25, 26, 27, 28, 29, 30, 31, 32, 33, 34, 35, 36, 37, 38, 39, 40, 41, 42, 43, 44, 45, 46, 47, 48, 49, 50, 51, 52, 53, 54, 55, 56, 57, 58, 59, 60] (by decide +kernel) (by decide +kernel)) (goodIn_sub (fun _ h => List.mem_cons_of_mem _ (List.mem_append_left _ (List.mem_append_right _ h))) (by decide +kernel))) (goodIn_sub (fun _ h => List.mem_cons_of_mem _ (List.mem_append_right _ h)) (by decide +kernel))
set_option maxRecDepth 20000 in
theorem gL_trace_X3_trace : GoodIn wsL_trace (wsV RL 41 RX3 yX3_trace wsX3_trace) := goodIn_app (goodIn_of _ (by decide +kernel)) ggL_trace_X3_trace
theorem dL_trace_0 : decode cL_trace 0 = .ok (.aload_n 0, 1) := by decide +kernel
theorem dL_trace_1 : decode cL_trace 1 = .ok (.iload_n 1, 1) := by decide +kernel
theorem dL_trace_2 : decode cL_trace 2 = .ok (.iload_n 2, 1) := by decide +kernel
theorem dL_trace_3 : decode cL_trace 3 = .ok (.invokevirtual 41, 3) := by decide +kernel
theorem dL_trace_6 : decode cL_trace 6 = .ok (.istore_n 3, 1) := by decide +kernel
theorem dL_trace_7 : decode cL_trace 7 = .ok (.goto 13, 3) := by decide +kernel
theorem dL_trace_10 : decode cL_trace 10 = .ok (.astore 4, 2) := by decide +kernel
theorem dL_trace_12 : decode cL_trace 12 = .ok (.bipush (-31), 2) := by decide +kernel
theorem dL_trace_14 : decode cL_trace 14 = .ok (.ireturn, 1) := by decide +kernel
theorem dL_trace_15 : decode cL_trace 15 = .ok (.astore 4, 2) := by decide +kernel
theorem dL_trace_17 : decode cL_trace 17 = .ok (.bipush (-32), 2) := by decide +kernel
theorem dL_trace_19 : decode cL_trace 19 = .ok (.ireturn, 1) := by decide +kernel
theorem dL_trace_20 : decode cL_trace 20 = .ok (.iload_n 3, 1) := by decide +kernel
theorem dL_trace_21 : decode cL_trace 21 = .ok (.ireturn, 1) := by decide +kernel
set_option maxRecDepth 20000 in
theorem ggL_pointOf_X3_pointOf : GoodIn wsL_pointOf wsX3_pointOf := goodIn_ca (goodIn_ca (goodIn_r _ [7, 8, 9, 10, 11, 12, 13, 6, 14, 15, 16, 17, 18, 19, 20, 21, 22, 23, 24, 25, 26, 27, 28, 29, 30, 31, 32, 33, 34, 35, 36, 37, 38, 39, 40, 41, 42, 43, 44, 45, 46, 47, 48, 49, 50, 51, 52, 53, 54, 55, 56, 57, 58, 59, 60, 61, 62, 63] (by decide +kernel) (by decide +kernel)) (goodIn_sub (fun _ h => List.mem_cons_of_mem _ (List.mem_append_left _ (List.mem_append_right _ h))) (by decide +kernel))) (goodIn_sub (fun _ h => List.mem_cons_of_mem _ (List.mem_append_right _ h)) (by decide +kernel))
set_option maxRecDepth 20000 in
theorem gL_pointOf_X3_pointOf : GoodIn wsL_pointOf (wsV RL 44 RX3 yX3_pointOf wsX3_pointOf) := goodIn_app (goodIn_of _ (by decide +kernel)) ggL_pointOf_X3_pointOf
theorem dL_pointOf_0 : decode cL_pointOf 0 = .ok (.aload_n 0, 1) := by decide +kernel
theorem dL_pointOf_1 : decode cL_pointOf 1 = .ok (.iload_n 1, 1) := by decide +kernel
theorem dL_pointOf_2 : decode cL_pointOf 2 = .ok (.iload_n 2, 1) := by decide +kernel
theorem dL_pointOf_3 : decode cL_pointOf 3 = .ok (.invokevirtual 44, 3) := by decide +kernel
theorem dL_pointOf_6 : decode cL_pointOf 6 = .ok (.istore_n 3, 1) := by decide +kernel
theorem dL_pointOf_7 : decode cL_pointOf 7 = .ok (.goto 13, 3) := by decide +kernel
theorem dL_pointOf_10 : decode cL_pointOf 10 = .ok (.astore 4, 2) := by decide +kernel
theorem dL_pointOf_12 : decode cL_pointOf 12 = .ok (.bipush (-31), 2) := by decide +kernel
theorem dL_pointOf_14 : decode cL_pointOf 14 = .ok (.ireturn, 1) := by decide +kernel
theorem dL_pointOf_15 : decode cL_pointOf 15 = .ok (.astore 4, 2) := by decide +kernel
theorem dL_pointOf_17 : decode cL_pointOf 17 = .ok (.bipush (-32), 2) := by decide +kernel
theorem dL_pointOf_19 : decode cL_pointOf 19 = .ok (.ireturn, 1) := by decide +kernel
theorem dL_pointOf_20 : decode cL_pointOf 20 = .ok (.iload_n 3, 1) := by decide +kernel
theorem dL_pointOf_21 : decode cL_pointOf 21 = .ok (.ireturn, 1) := by decide +kernel
set_option maxRecDepth 20000 in
theorem ggL_enough_X3_enough : GoodIn wsL_enough wsX3_enough := goodIn_ca (goodIn_r _ [6, 7, 8, 9, 10, 11, 5, 12, 13, 14, 15, 16, 17, 18, 19, 20, 21, 22, 23, 24, 25, 26, 27, 28, 29, 30, 31, 32, 33, 34, 35, 36, 37, 38, 39, 40, 41, 42, 43, 44, 45, 46, 47, 48, 49, 50, 51, 52, 53, 54] (by decide +kernel) (by decide +kernel)) (goodIn_sub (fun _ h => List.mem_cons_of_mem _ (List.mem_append_right _ h)) (by decide +kernel))
set_option maxRecDepth 20000 in
theorem gL_enough_X3_enough : GoodIn wsL_enough (wsV RL 47 RX3 yX3_enough wsX3_enough) := goodIn_app (goodIn_of _ (by decide +kernel)) ggL_enough_X3_enough
theorem dL_enough_0 : decode cL_enough 0 = .ok (.aload_n 0, 1) := by decide +kernel
theorem dL_enough_1 : decode cL_enough 1 = .ok (.iload_n 1, 1) := by decide +kernel
theorem dL_enough_2 : decode cL_enough 2 = .ok (.iload_n 2, 1) := by decide +kernel
theorem dL_enough_3 : decode cL_enough 3 = .ok (.invokevirtual 47, 3) := by decide +kernel
theorem dL_enough_6 : decode cL_enough 6 = .ok (.istore_n 3, 1) := by decide +kernel
theorem dL_enough_7 : decode cL_enough 7 = .ok (.goto 8, 3) := by decide +kernel
theorem dL_enough_10 : decode cL_enough 10 = .ok (.astore 4, 2) := by decide +kernel
theorem dL_enough_12 : decode cL_enough 12 = .ok (.bipush (-32), 2) := by decide +kernel
theorem dL_enough_14 : decode cL_enough 14 = .ok (.ireturn, 1) := by decide +kernel
theorem dL_enough_15 : decode cL_enough 15 = .ok (.iload_n 3, 1) := by decide +kernel
theorem dL_enough_16 : decode cL_enough 16 = .ok (.ireturn, 1) := by decide +kernel
set_option maxRecDepth 20000 in
theorem ggL_ifTurned_X3_ifTurned : GoodIn wsL_ifTurned wsX3_ifTurned := goodIn_ca (goodIn_ca (goodIn_r _ [7, 8, 9, 10, 11, 12, 13, 14, 6, 15, 16, 17, 18, 19, 20, 21, 22, 23, 24, 25, 26, 27, 28, 29, 30, 31, 32, 33, 34, 35, 36, 37, 38, 39, 40, 41, 42, 43, 44, 45, 46, 47, 48, 49, 50, 51] (by decide +kernel) (by decide +kernel)) (goodIn_sub (fun _ h => List.mem_cons_of_mem _ (List.mem_append_left _ (List.mem_append_right _ h))) (by decide +kernel))) (goodIn_sub (fun _ h => List.mem_cons_of_mem _ (List.mem_append_right _ h)) (by decide +kernel))
set_option maxRecDepth 20000 in
theorem gL_ifTurned_X3_ifTurned : GoodIn wsL_ifTurned (wsV RL 50 RX3 yX3_ifTurned wsX3_ifTurned) := goodIn_app (goodIn_of _ (by decide +kernel)) ggL_ifTurned_X3_ifTurned
theorem dL_ifTurned_0 : decode cL_ifTurned 0 = .ok (.aload_n 0, 1) := by decide +kernel
theorem dL_ifTurned_1 : decode cL_ifTurned 1 = .ok (.iload_n 1, 1) := by decide +kernel
theorem dL_ifTurned_2 : decode cL_ifTurned 2 = .ok (.iload_n 2, 1) := by decide +kernel
theorem dL_ifTurned_3 : decode cL_ifTurned 3 = .ok (.invokevirtual 50, 3) := by decide +kernel
theorem dL_ifTurned_6 : decode cL_ifTurned 6 = .ok (.istore_n 3, 1) := by decide +kernel
theorem dL_ifTurned_7 : decode cL_ifTurned 7 = .ok (.goto 13, 3) := by decide +kernel
theorem dL_ifTurned_10 : decode cL_ifTurned 10 = .ok (.astore 4, 2) := by decide +kernel
theorem dL_ifTurned_12 : decode cL_ifTurned 12 = .ok (.bipush (-31), 2) := by decide +kernel
theorem dL_ifTurned_14 : decode cL_ifTurned 14 = .ok (.ireturn, 1) := by decide +kernel
theorem dL_ifTurned_15 : decode cL_ifTurned 15 = .ok (.astore 4, 2) := by decide +kernel
theorem dL_ifTurned_17 : decode cL_ifTurned 17 = .ok (.bipush (-32), 2) := by decide +kernel
theorem dL_ifTurned_19 : decode cL_ifTurned 19 = .ok (.ireturn, 1) := by decide +kernel
theorem dL_ifTurned_20 : decode cL_ifTurned 20 = .ok (.iload_n 3, 1) := by decide +kernel
theorem dL_ifTurned_21 : decode cL_ifTurned 21 = .ok (.ireturn, 1) := by decide +kernel
theorem dL_wave_0 : decode cL_wave 0 = .ok (.iconst 1, 1) := by decide +kernel
theorem dL_wave_1 : decode cL_wave 1 = .ok (.istore_n 2, 1) := by decide +kernel
theorem dL_wave_2 : decode cL_wave 2 = .ok (.iconst 1, 1) := by decide +kernel
theorem dL_wave_3 : decode cL_wave 3 = .ok (.istore_n 3, 1) := by decide +kernel
theorem dL_wave_4 : decode cL_wave 4 = .ok (.iload_n 3, 1) := by decide +kernel
theorem dL_wave_5 : decode cL_wave 5 = .ok (.bipush 8, 2) := by decide +kernel
theorem dL_wave_7 : decode cL_wave 7 = .ok (.if_icmp .ge 30, 3) := by decide +kernel
theorem dL_wave_10 : decode cL_wave 10 = .ok (.iload_n 0, 1) := by decide +kernel
theorem dL_wave_11 : decode cL_wave 11 = .ok (.iload_n 3, 1) := by decide +kernel
theorem dL_wave_12 : decode cL_wave 12 = .ok (.idiv, 1) := by decide +kernel
theorem dL_wave_13 : decode cL_wave 13 = .ok (.iload_n 1, 1) := by decide +kernel
theorem dL_wave_14 : decode cL_wave 14 = .ok (.iload_n 3, 1) := by decide +kernel
theorem dL_wave_15 : decode cL_wave 15 = .ok (.idiv, 1) := by decide +kernel
theorem dL_wave_16 : decode cL_wave 16 = .ok (.iand, 1) := by decide +kernel
theorem dL_wave_17 : decode cL_wave 17 = .ok (.iconst 1, 1) := by decide +kernel
theorem dL_wave_18 : decode cL_wave 18 = .ok (.iand, 1) := by decide +kernel
theorem dL_wave_19 : decode cL_wave 19 = .ok (.iconst 1, 1) := by decide +kernel
theorem dL_wave_20 : decode cL_wave 20 = .ok (.if_icmp .ne 8, 3) := by decide +kernel
theorem dL_wave_23 : decode cL_wave 23 = .ok (.iload_n 2, 1) := by decide +kernel
theorem dL_wave_24 : decode cL_wave 24 = .ok (.ineg, 1) := by decide +kernel
theorem dL_wave_25 : decode cL_wave 25 = .ok (.goto 4, 3) := by decide +kernel
theorem dL_wave_28 : decode cL_wave 28 = .ok (.iload_n 2, 1) := by decide +kernel
theorem dL_wave_29 : decode cL_wave 29 = .ok (.istore_n 2, 1) := by decide +kernel
theorem dL_wave_30 : decode cL_wave 30 = .ok (.iload_n 3, 1) := by decide +kernel
theorem dL_wave_31 : decode cL_wave 31 = .ok (.iconst 2, 1) := by decide +kernel
theorem dL_wave_32 : decode cL_wave 32 = .ok (.imul, 1) := by decide +kernel
theorem dL_wave_33 : decode cL_wave 33 = .ok (.istore_n 3, 1) := by decide +kernel
theorem dL_wave_34 : decode cL_wave 34 = .ok (.goto (-30), 3) := by decide +kernel
theorem dL_wave_37 : decode cL_wave 37 = .ok (.iload_n 2, 1) := by decide +kernel
theorem dL_wave_38 : decode cL_wave 38 = .ok (.ireturn, 1) := by decide +kernel
theorem dL_halves_0 : decode cL_halves 0 = .ok (.iconst 4, 1) := by decide +kernel
theorem dL_halves_1 : decode cL_halves 1 = .ok (.istore_n 1, 1) := by decide +kernel
theorem dL_halves_2 : decode cL_halves 2 = .ok (.iload_n 1, 1) := by decide +kernel
theorem dL_halves_3 : decode cL_halves 3 = .ok (.ifCond .le 63, 3) := by decide +kernel
theorem dL_halves_6 : decode cL_halves 6 = .ok (.iconst 0, 1) := by decide +kernel
theorem dL_halves_7 : decode cL_halves 7 = .ok (.istore_n 2, 1) := by decide +kernel
theorem dL_halves_8 : decode cL_halves 8 = .ok (.iload_n 2, 1) := by decide +kernel
theorem dL_halves_9 : decode cL_halves 9 = .ok (.bipush 8, 2) := by decide +kernel
theorem dL_halves_11 : decode cL_halves 11 = .ok (.if_icmp .ge 48, 3) := by decide +kernel
theorem dL_halves_14 : decode cL_halves 14 = .ok (.iload_n 2, 1) := by decide +kernel
theorem dL_halves_15 : decode cL_halves 15 = .ok (.iload_n 1, 1) := by decide +kernel
theorem dL_halves_16 : decode cL_halves 16 = .ok (.idiv, 1) := by decide +kernel
theorem dL_halves_17 : decode cL_halves 17 = .ok (.iconst 1, 1) := by decide +kernel
theorem dL_halves_18 : decode cL_halves 18 = .ok (.iand, 1) := by decide +kernel
theorem dL_halves_19 : decode cL_halves 19 = .ok (.iconst 1, 1) := by decide +kernel
theorem dL_halves_20 : decode cL_halves 20 = .ok (.if_icmp .ne 6, 3) := by decide +kernel
theorem dL_halves_23 : decode cL_halves 23 = .ok (.goto 30, 3) := by decide +kernel
theorem dL_halves_26 : decode cL_halves 26 = .ok (.aload_n 0, 1) := by decide +kernel
theorem dL_halves_27 : decode cL_halves 27 = .ok (.iload_n 2, 1) := by decide +kernel
theorem dL_halves_28 : decode cL_halves 28 = .ok (.iaload, 1) := by decide +kernel
theorem dL_halves_29 : decode cL_halves 29 = .ok (.istore_n 3, 1) := by decide +kernel
theorem dL_halves_30 : decode cL_halves 30 = .ok (.aload_n 0, 1) := by decide +kernel
theorem dL_halves_31 : decode cL_halves 31 = .ok (.iload_n 2, 1) := by decide +kernel
theorem dL_halves_32 : decode cL_halves 32 = .ok (.iload_n 1, 1) := by decide +kernel
theorem dL_halves_33 : decode cL_halves 33 = .ok (.iadd, 1) := by decide +kernel
theorem dL_halves_34 : decode cL_halves 34 = .ok (.iaload, 1) := by decide +kernel
theorem dL_halves_35 : decode cL_halves 35 = .ok (.istore 4, 2) := by decide +kernel
theorem dL_halves_37 : decode cL_halves 37 = .ok (.aload_n 0, 1) := by decide +kernel
theorem dL_halves_38 : decode cL_halves 38 = .ok (.iload_n 2, 1) := by decide +kernel
theorem dL_halves_39 : decode cL_halves 39 = .ok (.iload_n 3, 1) := by decide +kernel
theorem dL_halves_40 : decode cL_halves 40 = .ok (.iload 4, 2) := by decide +kernel
theorem dL_halves_42 : decode cL_halves 42 = .ok (.iadd, 1) := by decide +kernel
theorem dL_halves_43 : decode cL_halves 43 = .ok (.iastore, 1) := by decide +kernel
theorem dL_halves_44 : decode cL_halves 44 = .ok (.aload_n 0, 1) := by decide +kernel
theorem dL_halves_45 : decode cL_halves 45 = .ok (.iload_n 2, 1) := by decide +kernel
theorem dL_halves_46 : decode cL_halves 46 = .ok (.iload_n 1, 1) := by decide +kernel
theorem dL_halves_47 : decode cL_halves 47 = .ok (.iadd, 1) := by decide +kernel
theorem dL_halves_48 : decode cL_halves 48 = .ok (.iload_n 3, 1) := by decide +kernel
theorem dL_halves_49 : decode cL_halves 49 = .ok (.iload 4, 2) := by decide +kernel
theorem dL_halves_51 : decode cL_halves 51 = .ok (.isub, 1) := by decide +kernel
theorem dL_halves_52 : decode cL_halves 52 = .ok (.iastore, 1) := by decide +kernel
theorem dL_halves_53 : decode cL_halves 53 = .ok (.iinc 2 1, 3) := by decide +kernel
theorem dL_halves_56 : decode cL_halves 56 = .ok (.goto (-48), 3) := by decide +kernel
theorem dL_halves_59 : decode cL_halves 59 = .ok (.iload_n 1, 1) := by decide +kernel
theorem dL_halves_60 : decode cL_halves 60 = .ok (.iconst 2, 1) := by decide +kernel
theorem dL_halves_61 : decode cL_halves 61 = .ok (.idiv, 1) := by decide +kernel
theorem dL_halves_62 : decode cL_halves 62 = .ok (.istore_n 1, 1) := by decide +kernel
theorem dL_halves_63 : decode cL_halves 63 = .ok (.goto (-61), 3) := by decide +kernel
theorem dL_halves_66 : decode cL_halves 66 = .ok (.return_, 1) := by decide +kernel
set_option maxRecDepth 20000 in
theorem ggL_draw_L_halves : GoodIn wsL_draw wsL_halves := goodIn_r _ [4] (by decide +kernel) (by decide +kernel)
set_option maxRecDepth 20000 in
theorem gL_draw_L_halves : GoodIn wsL_draw (va_wsS RL 53 yL_halves wsL_halves) := goodIn_app (goodIn_of _ (by decide +kernel)) ggL_draw_L_halves
theorem dL_draw_0 : decode cL_draw 0 = .ok (.iconst 0, 1) := by decide +kernel
theorem dL_draw_1 : decode cL_draw 1 = .ok (.istore_n 3, 1) := by decide +kernel
theorem dL_draw_2 : decode cL_draw 2 = .ok (.iload_n 3, 1) := by decide +kernel
theorem dL_draw_3 : decode cL_draw 3 = .ok (.bipush 8, 2) := by decide +kernel
theorem dL_draw_5 : decode cL_draw 5 = .ok (.if_icmp .ge 26, 3) := by decide +kernel
theorem dL_draw_8 : decode cL_draw 8 = .ok (.aload_n 2, 1) := by decide +kernel
theorem dL_draw_9 : decode cL_draw 9 = .ok (.iload_n 3, 1) := by decide +kernel
theorem dL_draw_10 : decode cL_draw 10 = .ok (.aload_n 1, 1) := by decide +kernel
theorem dL_draw_11 : decode cL_draw 11 = .ok (.iload_n 3, 1) := by decide +kernel
theorem dL_draw_12 : decode cL_draw 12 = .ok (.iaload, 1) := by decide +kernel
theorem dL_draw_13 : decode cL_draw 13 = .ok (.iconst 1, 1) := by decide +kernel
theorem dL_draw_14 : decode cL_draw 14 = .ok (.if_icmp .ne 7, 3) := by decide +kernel
theorem dL_draw_17 : decode cL_draw 17 = .ok (.iconst 0, 1) := by decide +kernel
theorem dL_draw_18 : decode cL_draw 18 = .ok (.goto 6, 3) := by decide +kernel
theorem dL_draw_21 : decode cL_draw 21 = .ok (.aload_n 0, 1) := by decide +kernel
theorem dL_draw_22 : decode cL_draw 22 = .ok (.iload_n 3, 1) := by decide +kernel
theorem dL_draw_23 : decode cL_draw 23 = .ok (.iaload, 1) := by decide +kernel
theorem dL_draw_24 : decode cL_draw 24 = .ok (.iastore, 1) := by decide +kernel
theorem dL_draw_25 : decode cL_draw 25 = .ok (.iinc 3 1, 3) := by decide +kernel
theorem dL_draw_28 : decode cL_draw 28 = .ok (.goto (-26), 3) := by decide +kernel
theorem dL_draw_31 : decode cL_draw 31 = .ok (.aload_n 2, 1) := by decide +kernel
theorem dL_draw_32 : decode cL_draw 32 = .ok (.invokestatic 53, 3) := by decide +kernel
theorem dL_draw_35 : decode cL_draw 35 = .ok (.return_, 1) := by decide +kernel
theorem dL_amount_0 : decode cL_amount 0 = .ok (.iload_n 0, 1) := by decide +kernel
theorem dL_amount_1 : decode cL_amount 1 = .ok (.ifCond .ge 8, 3) := by decide +kernel
theorem dL_amount_4 : decode cL_amount 4 = .ok (.iload_n 0, 1) := by decide +kernel
theorem dL_amount_5 : decode cL_amount 5 = .ok (.ineg, 1) := by decide +kernel
theorem dL_amount_6 : decode cL_amount 6 = .ok (.goto 4, 3) := by decide +kernel
theorem dL_amount_9 : decode cL_amount 9 = .ok (.iload_n 0, 1) := by decide +kernel
theorem dL_amount_10 : decode cL_amount 10 = .ok (.ireturn, 1) := by decide +kernel
theorem dL_eighth_0 : decode cL_eighth 0 = .ok (.iload_n 0, 1) := by decide +kernel
theorem dL_eighth_1 : decode cL_eighth 1 = .ok (.ldc 59, 2) := by decide +kernel
theorem dL_eighth_3 : decode cL_eighth 3 = .ok (.iadd, 1) := by decide +kernel
theorem dL_eighth_4 : decode cL_eighth 4 = .ok (.bipush 8, 2) := by decide +kernel
theorem dL_eighth_6 : decode cL_eighth 6 = .ok (.idiv, 1) := by decide +kernel
theorem dL_eighth_7 : decode cL_eighth 7 = .ok (.ldc 60, 2) := by decide +kernel
theorem dL_eighth_9 : decode cL_eighth 9 = .ok (.isub, 1) := by decide +kernel
theorem dL_eighth_10 : decode cL_eighth 10 = .ok (.ireturn, 1) := by decide +kernel
theorem dL_turning_0 : decode cL_turning 0 = .ok (.iconst 0, 1) := by decide +kernel
theorem dL_turning_1 : decode cL_turning 1 = .ok (.istore_n 1, 1) := by decide +kernel
theorem dL_turning_2 : decode cL_turning 2 = .ok (.iconst 0, 1) := by decide +kernel
theorem dL_turning_3 : decode cL_turning 3 = .ok (.istore_n 2, 1) := by decide +kernel
theorem dL_turning_4 : decode cL_turning 4 = .ok (.iload_n 2, 1) := by decide +kernel
theorem dL_turning_5 : decode cL_turning 5 = .ok (.bipush 8, 2) := by decide +kernel
theorem dL_turning_7 : decode cL_turning 7 = .ok (.if_icmp .ge 23, 3) := by decide +kernel
theorem dL_turning_10 : decode cL_turning 10 = .ok (.iload_n 1, 1) := by decide +kernel
theorem dL_turning_11 : decode cL_turning 11 = .ok (.aload_n 0, 1) := by decide +kernel
theorem dL_turning_12 : decode cL_turning 12 = .ok (.iload_n 2, 1) := by decide +kernel
theorem dL_turning_13 : decode cL_turning 13 = .ok (.iaload, 1) := by decide +kernel
theorem dL_turning_14 : decode cL_turning 14 = .ok (.ifCond .ne 7, 3) := by decide +kernel
theorem dL_turning_17 : decode cL_turning 17 = .ok (.iconst 0, 1) := by decide +kernel
theorem dL_turning_18 : decode cL_turning 18 = .ok (.goto 4, 3) := by decide +kernel
theorem dL_turning_21 : decode cL_turning 21 = .ok (.iconst 1, 1) := by decide +kernel
theorem dL_turning_22 : decode cL_turning 22 = .ok (.iadd, 1) := by decide +kernel
theorem dL_turning_23 : decode cL_turning 23 = .ok (.istore_n 1, 1) := by decide +kernel
theorem dL_turning_24 : decode cL_turning 24 = .ok (.iinc 2 1, 3) := by decide +kernel
theorem dL_turning_27 : decode cL_turning 27 = .ok (.goto (-23), 3) := by decide +kernel
theorem dL_turning_30 : decode cL_turning 30 = .ok (.iload_n 1, 1) := by decide +kernel
theorem dL_turning_31 : decode cL_turning 31 = .ok (.ireturn, 1) := by decide +kernel

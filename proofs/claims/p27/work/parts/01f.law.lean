theorem dL_cell_0 : decode cL_cell 0 = .ok (.iload_n 1, 1) := by decide +kernel
theorem dL_cell_1 : decode cL_cell 1 = .ok (.aload_n 0, 1) := by decide +kernel
theorem dL_cell_2 : decode cL_cell 2 = .ok (.arraylength, 1) := by decide +kernel
theorem dL_cell_3 : decode cL_cell 3 = .ok (.if_icmp .ge 9, 3) := by decide +kernel
theorem dL_cell_6 : decode cL_cell 6 = .ok (.aload_n 0, 1) := by decide +kernel
theorem dL_cell_7 : decode cL_cell 7 = .ok (.iload_n 1, 1) := by decide +kernel
theorem dL_cell_8 : decode cL_cell 8 = .ok (.iaload, 1) := by decide +kernel
theorem dL_cell_9 : decode cL_cell 9 = .ok (.goto 9, 3) := by decide +kernel
theorem dL_cell_12 : decode cL_cell 12 = .ok (.ldc 7, 2) := by decide +kernel
theorem dL_cell_14 : decode cL_cell 14 = .ok (.iload_n 1, 1) := by decide +kernel
theorem dL_cell_15 : decode cL_cell 15 = .ok (.iconst 1, 1) := by decide +kernel
theorem dL_cell_16 : decode cL_cell 16 = .ok (.iadd, 1) := by decide +kernel
theorem dL_cell_17 : decode cL_cell 17 = .ok (.imul, 1) := by decide +kernel
theorem dL_cell_18 : decode cL_cell 18 = .ok (.ireturn, 1) := by decide +kernel
theorem dL_low_0 : decode cL_low 0 = .ok (.iload_n 0, 1) := by decide +kernel
theorem dL_low_1 : decode cL_low 1 = .ok (.ldc 8, 2) := by decide +kernel
theorem dL_low_3 : decode cL_low 3 = .ok (.iand, 1) := by decide +kernel
theorem dL_low_4 : decode cL_low 4 = .ok (.iload_n 1, 1) := by decide +kernel
theorem dL_low_5 : decode cL_low 5 = .ok (.irem, 1) := by decide +kernel
theorem dL_low_6 : decode cL_low 6 = .ok (.ireturn, 1) := by decide +kernel
set_option maxRecDepth 20000 in
theorem ggL_set_X3_set : GoodIn wsL_set wsX3_set := goodIn_ca (goodIn_ca (goodIn_r _ [7, 8, 9, 10, 11, 12, 13, 14, 15, 6, 16, 17, 18, 19, 20, 21, 22, 23, 24, 25, 26, 27, 28, 29, 30, 31, 32, 33, 34, 35, 36, 37, 38, 39, 40, 41, 42, 43, 44, 45, 46, 47, 48, 49, 50, 51, 52, 53, 54, 55] (by decide +kernel) (by decide +kernel)) (goodIn_sub (fun _ h => List.mem_cons_of_mem _ (List.mem_append_left _ (List.mem_append_right _ h))) (by decide +kernel))) (goodIn_sub (fun _ h => List.mem_cons_of_mem _ (List.mem_append_right _ h)) (by decide +kernel))
set_option maxRecDepth 20000 in
theorem gL_set_X3_set : GoodIn wsL_set (wsV RL 9 RX3 yX3_set wsX3_set) := goodIn_app (goodIn_of _ (by decide +kernel)) ggL_set_X3_set
theorem dL_set_0 : decode cL_set 0 = .ok (.aload_n 0, 1) := by decide +kernel
theorem dL_set_1 : decode cL_set 1 = .ok (.iload_n 1, 1) := by decide +kernel
theorem dL_set_2 : decode cL_set 2 = .ok (.iload_n 2, 1) := by decide +kernel
theorem dL_set_3 : decode cL_set 3 = .ok (.invokevirtual 9, 3) := by decide +kernel
theorem dL_set_6 : decode cL_set 6 = .ok (.istore_n 3, 1) := by decide +kernel
theorem dL_set_7 : decode cL_set 7 = .ok (.goto 13, 3) := by decide +kernel
theorem dL_set_10 : decode cL_set 10 = .ok (.astore 4, 2) := by decide +kernel
theorem dL_set_12 : decode cL_set 12 = .ok (.bipush (-31), 2) := by decide +kernel
theorem dL_set_14 : decode cL_set 14 = .ok (.ireturn, 1) := by decide +kernel
theorem dL_set_15 : decode cL_set 15 = .ok (.astore 4, 2) := by decide +kernel
theorem dL_set_17 : decode cL_set 17 = .ok (.bipush (-32), 2) := by decide +kernel
theorem dL_set_19 : decode cL_set 19 = .ok (.ireturn, 1) := by decide +kernel
theorem dL_set_20 : decode cL_set 20 = .ok (.iload_n 3, 1) := by decide +kernel
theorem dL_set_21 : decode cL_set 21 = .ok (.ireturn, 1) := by decide +kernel
set_option maxRecDepth 20000 in
theorem ggL_lose_X3_lose : GoodIn wsL_lose wsX3_lose := goodIn_ca (goodIn_r _ [6, 7, 8, 9, 10, 11, 12, 5, 13, 14, 15, 16, 17, 18, 19, 20, 21, 22, 23, 24, 25, 26, 27, 28, 29, 30, 31, 32, 33, 34, 35, 36, 37, 38, 39, 40, 41, 42, 43, 44, 45, 46, 47, 48, 49, 50, 51, 52, 53, 54, 55] (by decide +kernel) (by decide +kernel)) (goodIn_sub (fun _ h => List.mem_cons_of_mem _ (List.mem_append_right _ h)) (by decide +kernel))
set_option maxRecDepth 20000 in
theorem gL_lose_X3_lose : GoodIn wsL_lose (wsV RL 19 RX3 yX3_lose wsX3_lose) := goodIn_app (goodIn_of _ (by decide +kernel)) ggL_lose_X3_lose
theorem dL_lose_0 : decode cL_lose 0 = .ok (.aload_n 0, 1) := by decide +kernel
theorem dL_lose_1 : decode cL_lose 1 = .ok (.iload_n 1, 1) := by decide +kernel
theorem dL_lose_2 : decode cL_lose 2 = .ok (.invokevirtual 19, 3) := by decide +kernel
theorem dL_lose_5 : decode cL_lose 5 = .ok (.istore_n 2, 1) := by decide +kernel
theorem dL_lose_6 : decode cL_lose 6 = .ok (.goto 7, 3) := by decide +kernel
theorem dL_lose_9 : decode cL_lose 9 = .ok (.astore_n 3, 1) := by decide +kernel
theorem dL_lose_10 : decode cL_lose 10 = .ok (.bipush (-31), 2) := by decide +kernel
theorem dL_lose_12 : decode cL_lose 12 = .ok (.ireturn, 1) := by decide +kernel
theorem dL_lose_13 : decode cL_lose 13 = .ok (.iload_n 2, 1) := by decide +kernel
theorem dL_lose_14 : decode cL_lose 14 = .ok (.ireturn, 1) := by decide +kernel
set_option maxRecDepth 20000 in
theorem ggL_turn_X3_turn : GoodIn wsL_turn wsX3_turn := goodIn_ca (goodIn_r _ [6, 7, 8, 9, 10, 11, 12, 5, 13, 14, 15, 16, 17, 18, 19, 20, 21, 22, 23, 24, 25, 26, 27, 28, 29, 30, 31, 32, 33, 34, 35, 36, 37, 38, 39, 40, 41, 42, 43, 44, 45, 46, 47, 48, 49, 50, 51, 52, 53, 54, 55, 56, 57, 58, 59, 60, 61, 62] (by decide +kernel) (by decide +kernel)) (goodIn_sub (fun _ h => List.mem_cons_of_mem _ (List.mem_append_right _ h)) (by decide +kernel))
set_option maxRecDepth 20000 in
theorem gL_turn_X3_turn : GoodIn wsL_turn (wsV RL 23 RX3 yX3_turn wsX3_turn) := goodIn_app (goodIn_of _ (by decide +kernel)) ggL_turn_X3_turn
theorem dL_turn_0 : decode cL_turn 0 = .ok (.aload_n 0, 1) := by decide +kernel
theorem dL_turn_1 : decode cL_turn 1 = .ok (.iload_n 1, 1) := by decide +kernel
theorem dL_turn_2 : decode cL_turn 2 = .ok (.invokevirtual 23, 3) := by decide +kernel
theorem dL_turn_5 : decode cL_turn 5 = .ok (.istore_n 2, 1) := by decide +kernel
theorem dL_turn_6 : decode cL_turn 6 = .ok (.goto 7, 3) := by decide +kernel
theorem dL_turn_9 : decode cL_turn 9 = .ok (.astore_n 3, 1) := by decide +kernel
theorem dL_turn_10 : decode cL_turn 10 = .ok (.bipush (-32), 2) := by decide +kernel
theorem dL_turn_12 : decode cL_turn 12 = .ok (.ireturn, 1) := by decide +kernel
theorem dL_turn_13 : decode cL_turn 13 = .ok (.iload_n 2, 1) := by decide +kernel
theorem dL_turn_14 : decode cL_turn 14 = .ok (.ireturn, 1) := by decide +kernel
set_option maxRecDepth 20000 in
theorem ggL_drop_X3_drop : GoodIn wsL_drop wsX3_drop := goodIn_ca (goodIn_r _ [6, 7, 8, 9, 10, 11, 12, 13, 14, 15, 16, 5, 17, 18, 19, 20, 21, 22, 23, 24, 25, 26, 27, 28, 29, 30, 31, 32, 33, 34, 35, 36, 37, 38, 39, 40, 41, 42, 43, 44, 45, 46, 47, 48, 49, 50, 51, 52] (by decide +kernel) (by decide +kernel)) (goodIn_sub (fun _ h => List.mem_cons_of_mem _ (List.mem_append_right _ h)) (by decide +kernel))
set_option maxRecDepth 20000 in
theorem gL_drop_X3_drop : GoodIn wsL_drop (wsV RL 26 RX3 yX3_drop wsX3_drop) := goodIn_app (goodIn_of _ (by decide +kernel)) ggL_drop_X3_drop
theorem dL_drop_0 : decode cL_drop 0 = .ok (.aload_n 0, 1) := by decide +kernel
theorem dL_drop_1 : decode cL_drop 1 = .ok (.iload_n 1, 1) := by decide +kernel
theorem dL_drop_2 : decode cL_drop 2 = .ok (.invokevirtual 26, 3) := by decide +kernel
theorem dL_drop_5 : decode cL_drop 5 = .ok (.istore_n 2, 1) := by decide +kernel
theorem dL_drop_6 : decode cL_drop 6 = .ok (.goto 7, 3) := by decide +kernel
theorem dL_drop_9 : decode cL_drop 9 = .ok (.astore_n 3, 1) := by decide +kernel
theorem dL_drop_10 : decode cL_drop 10 = .ok (.bipush (-32), 2) := by decide +kernel
theorem dL_drop_12 : decode cL_drop 12 = .ok (.ireturn, 1) := by decide +kernel
theorem dL_drop_13 : decode cL_drop 13 = .ok (.iload_n 2, 1) := by decide +kernel
theorem dL_drop_14 : decode cL_drop 14 = .ok (.ireturn, 1) := by decide +kernel
set_option maxRecDepth 20000 in
theorem ggL_point_X3_point : GoodIn wsL_point wsX3_point := goodIn_ca (goodIn_ca (goodIn_r _ [7, 8, 9, 10, 11, 12, 13, 14, 15, 6, 16, 17, 18, 19, 20, 21, 22, 23, 24, 25, 26, 27, 28, 29, 30, 31, 32, 33, 34, 35, 36, 37, 38, 39, 40, 41, 42, 43, 44, 45, 46, 47, 48, 49, 50, 51, 52, 53, 54, 55] (by decide +kernel) (by decide +kernel)) (goodIn_sub (fun _ h => List.mem_cons_of_mem _ (List.mem_append_left _ (List.mem_append_right _ h))) (by decide +kernel))) (goodIn_sub (fun _ h => List.mem_cons_of_mem _ (List.mem_append_right _ h)) (by decide +kernel))
set_option maxRecDepth 20000 in
theorem gL_point_X3_point : GoodIn wsL_point (wsV RL 29 RX3 yX3_point wsX3_point) := goodIn_app (goodIn_of _ (by decide +kernel)) ggL_point_X3_point
theorem dL_point_0 : decode cL_point 0 = .ok (.aload_n 0, 1) := by decide +kernel
theorem dL_point_1 : decode cL_point 1 = .ok (.iload_n 1, 1) := by decide +kernel
theorem dL_point_2 : decode cL_point 2 = .ok (.iload_n 2, 1) := by decide +kernel
theorem dL_point_3 : decode cL_point 3 = .ok (.invokevirtual 29, 3) := by decide +kernel
theorem dL_point_6 : decode cL_point 6 = .ok (.istore_n 3, 1) := by decide +kernel
theorem dL_point_7 : decode cL_point 7 = .ok (.goto 13, 3) := by decide +kernel
theorem dL_point_10 : decode cL_point 10 = .ok (.astore 4, 2) := by decide +kernel
theorem dL_point_12 : decode cL_point 12 = .ok (.bipush (-31), 2) := by decide +kernel
theorem dL_point_14 : decode cL_point 14 = .ok (.ireturn, 1) := by decide +kernel
theorem dL_point_15 : decode cL_point 15 = .ok (.astore 4, 2) := by decide +kernel
theorem dL_point_17 : decode cL_point 17 = .ok (.bipush (-32), 2) := by decide +kernel
theorem dL_point_19 : decode cL_point 19 = .ok (.ireturn, 1) := by decide +kernel
theorem dL_point_20 : decode cL_point 20 = .ok (.iload_n 3, 1) := by decide +kernel
theorem dL_point_21 : decode cL_point 21 = .ok (.ireturn, 1) := by decide +kernel
set_option maxRecDepth 20000 in
theorem ggL_undo_X3_undo : GoodIn wsL_undo wsX3_undo := goodIn_ca (goodIn_r _ [6, 7, 8, 9, 10, 11, 12, 13, 14, 15, 16, 17, 18, 19, 20, 21, 22, 23, 24, 25, 26, 27, 28, 29, 30, 31, 32, 33, 34, 35, 36, 37, 38, 39, 40, 41, 42] (by decide +kernel) (by decide +kernel)) (goodIn_sub (fun _ h => List.mem_cons_of_mem _ (List.mem_append_right _ h)) (by decide +kernel))
set_option maxRecDepth 20000 in
theorem gL_undo_X3_undo : GoodIn wsL_undo (wsV RL 32 RX3 yX3_undo wsX3_undo) := goodIn_app (goodIn_of _ (by decide +kernel)) ggL_undo_X3_undo
theorem dL_undo_0 : decode cL_undo 0 = .ok (.aload_n 0, 1) := by decide +kernel
theorem dL_undo_1 : decode cL_undo 1 = .ok (.invokevirtual 32, 3) := by decide +kernel
theorem dL_undo_4 : decode cL_undo 4 = .ok (.istore_n 1, 1) := by decide +kernel
theorem dL_undo_5 : decode cL_undo 5 = .ok (.goto 7, 3) := by decide +kernel
theorem dL_undo_8 : decode cL_undo 8 = .ok (.astore_n 2, 1) := by decide +kernel
theorem dL_undo_9 : decode cL_undo 9 = .ok (.bipush (-33), 2) := by decide +kernel
theorem dL_undo_11 : decode cL_undo 11 = .ok (.ireturn, 1) := by decide +kernel
theorem dL_undo_12 : decode cL_undo 12 = .ok (.iload_n 1, 1) := by decide +kernel
theorem dL_undo_13 : decode cL_undo 13 = .ok (.ireturn, 1) := by decide +kernel
set_option maxRecDepth 20000 in
theorem ggL_wheelOf_X3_wheelOf : GoodIn wsL_wheelOf wsX3_wheelOf := goodIn_ca (goodIn_ca (goodIn_r _ [7, 8, 9, 10, 11, 12, 13, 6, 14, 15, 16, 17, 18, 19, 20, 21, 22, 23, 24, 25, 26, 27, 28, 29, 30, 31, 32, 33, 34, 35, 36, 37, 38, 39, 40, 41, 42, 43, 44, 45, 46, 47, 48, 49, 50, 51, 52, 53, 54, 55, 56, 57, 58] (by decide +kernel) (by decide +kernel)) (goodIn_sub (fun _ h => List.mem_cons_of_mem _ (List.mem_append_left _ (List.mem_append_right _ h))) (by decide +kernel))) (goodIn_sub (fun _ h => List.mem_cons_of_mem _ (List.mem_append_right _ h)) (by decide +kernel))
set_option maxRecDepth 20000 in
theorem gL_wheelOf_X3_wheelOf : GoodIn wsL_wheelOf (wsV RL 38 RX3 yX3_wheelOf wsX3_wheelOf) := goodIn_app (goodIn_of _ (by decide +kernel)) ggL_wheelOf_X3_wheelOf
theorem dL_wheelOf_0 : decode cL_wheelOf 0 = .ok (.aload_n 0, 1) := by decide +kernel
theorem dL_wheelOf_1 : decode cL_wheelOf 1 = .ok (.iload_n 1, 1) := by decide +kernel
theorem dL_wheelOf_2 : decode cL_wheelOf 2 = .ok (.iload_n 2, 1) := by decide +kernel
theorem dL_wheelOf_3 : decode cL_wheelOf 3 = .ok (.invokevirtual 38, 3) := by decide +kernel
theorem dL_wheelOf_6 : decode cL_wheelOf 6 = .ok (.istore_n 3, 1) := by decide +kernel
theorem dL_wheelOf_7 : decode cL_wheelOf 7 = .ok (.goto 13, 3) := by decide +kernel
theorem dL_wheelOf_10 : decode cL_wheelOf 10 = .ok (.astore 4, 2) := by decide +kernel
theorem dL_wheelOf_12 : decode cL_wheelOf 12 = .ok (.bipush (-31), 2) := by decide +kernel
theorem dL_wheelOf_14 : decode cL_wheelOf 14 = .ok (.ireturn, 1) := by decide +kernel
theorem dL_wheelOf_15 : decode cL_wheelOf 15 = .ok (.astore 4, 2) := by decide +kernel
theorem dL_wheelOf_17 : decode cL_wheelOf 17 = .ok (.bipush (-32), 2) := by decide +kernel
theorem dL_wheelOf_19 : decode cL_wheelOf 19 = .ok (.ireturn, 1) := by decide +kernel
theorem dL_wheelOf_20 : decode cL_wheelOf 20 = .ok (.iload_n 3, 1) := by decide +kernel
theorem dL_wheelOf_21 : decode cL_wheelOf 21 = .ok (.ireturn, 1) := by decide +kernel
set_option maxRecDepth 20000 in
theorem ggL_trace_X3_trace : GoodIn wsL_trace wsX3_trace := goodIn_ca (goodIn_ca (goodIn_r _ [7, 8, 9, 10, 11, 12, 13, 6, 14, 15, 16, 17, 18, 19, 20, 21, 22, 23, 24, 25, 26, 27, 28, 29, 30, 31, 32, 33, 34, 35, 36, 37, 38, 39, 40, 41, 42, 43, 44, 45, 46, 47, 48, 49, 50, 51, 52, 53, 54, 55, 56, 57, 58, 59, 60] (by decide +kernel) (by decide +kernel)) (goodIn_sub (fun _ h => List.mem_cons_of_mem _ (List.mem_append_left _ (List.mem_append_right _ h))) (by decide +kernel))) (goodIn_sub (fun _ h => List.mem_cons_of_mem _ (List.mem_append_right _ h)) (by decide +kernel))
set_option maxRecDepth 20000 in
theorem gL_trace_X3_trace : GoodIn wsL_trace (wsV RL 41 RX3 yX3_trace wsX3_trace) := goodIn_app (goodIn_of _ (by decide +kernel)) ggL_trace_X3_trace
theorem dL_trace_0 : decode cL_trace 0 = .ok (.aload_n 0, 1) := by decide +kernel
theorem dL_trace_1 : decode cL_trace 1 = .ok (.iload_n 1, 1) := by decide +kernel
theorem dL_trace_2 : decode cL_trace 2 = .ok (.iload_n 2, 1) := by decide +kernel
theorem dL_trace_3 : decode cL_trace 3 = .ok (.invokevirtual 41, 3) := by decide +kernel
theorem dL_trace_6 : decode cL_trace 6 = .ok (.istore_n 3, 1) := by decide +kernel
theorem dL_trace_7 : decode cL_trace 7 = .ok (.goto 13, 3) := by decide +kernel
theorem dL_trace_10 : decode cL_trace 10 = .ok (.astore 4, 2) := by decide +kernel
theorem dL_trace_12 : decode cL_trace 12 = .ok (.bipush (-31), 2) := by decide +kernel
theorem dL_trace_14 : decode cL_trace 14 = .ok (.ireturn, 1) := by decide +kernel
theorem dL_trace_15 : decode cL_trace 15 = .ok (.astore 4, 2) := by decide +kernel
theorem dL_trace_17 : decode cL_trace 17 = .ok (.bipush (-32), 2) := by decide +kernel
theorem dL_trace_19 : decode cL_trace 19 = .ok (.ireturn, 1) := by decide +kernel
theorem dL_trace_20 : decode cL_trace 20 = .ok (.iload_n 3, 1) := by decide +kernel
theorem dL_trace_21 : decode cL_trace 21 = .ok (.ireturn, 1) := by decide +kernel
set_option maxRecDepth 20000 in
theorem ggL_pointOf_X3_pointOf : GoodIn wsL_pointOf wsX3_pointOf := goodIn_ca (goodIn_ca (goodIn_r _ [7, 8, 9, 10, 11, 12, 13, 6, 14, 15, 16, 17, 18, 19, 20, 21, 22, 23, 24, 25, 26, 27, 28, 29, 30, 31, 32, 33, 34, 35, 36, 37, 38, 39, 40, 41, 42, 43, 44, 45, 46, 47, 48, 49, 50, 51, 52, 53, 54, 55, 56, 57, 58, 59, 60, 61, 62, 63] (by decide +kernel) (by decide +kernel)) (goodIn_sub (fun _ h => List.mem_cons_of_mem _ (List.mem_append_left _ (List.mem_append_right _ h))) (by decide +kernel))) (goodIn_sub (fun _ h => List.mem_cons_of_mem _ (List.mem_append_right _ h)) (by decide +kernel))
set_option maxRecDepth 20000 in
theorem gL_pointOf_X3_pointOf : GoodIn wsL_pointOf (wsV RL 44 RX3 yX3_pointOf wsX3_pointOf) := goodIn_app (goodIn_of _ (by decide +kernel)) ggL_pointOf_X3_pointOf
theorem dL_pointOf_0 : decode cL_pointOf 0 = .ok (.aload_n 0, 1) := by decide +kernel
theorem dL_pointOf_1 : decode cL_pointOf 1 = .ok (.iload_n 1, 1) := by decide +kernel
theorem dL_pointOf_2 : decode cL_pointOf 2 = .ok (.iload_n 2, 1) := by decide +kernel
theorem dL_pointOf_3 : decode cL_pointOf 3 = .ok (.invokevirtual 44, 3) := by decide +kernel
theorem dL_pointOf_6 : decode cL_pointOf 6 = .ok (.istore_n 3, 1) := by decide +kernel
theorem dL_pointOf_7 : decode cL_pointOf 7 = .ok (.goto 13, 3) := by decide +kernel
theorem dL_pointOf_10 : decode cL_pointOf 10 = .ok (.astore 4, 2) := by decide +kernel
theorem dL_pointOf_12 : decode cL_pointOf 12 = .ok (.bipush (-31), 2) := by decide +kernel
theorem dL_pointOf_14 : decode cL_pointOf 14 = .ok (.ireturn, 1) := by decide +kernel
theorem dL_pointOf_15 : decode cL_pointOf 15 = .ok (.astore 4, 2) := by decide +kernel
theorem dL_pointOf_17 : decode cL_pointOf 17 = .ok (.bipush (-32), 2) := by decide +kernel
theorem dL_pointOf_19 : decode cL_pointOf 19 = .ok (.ireturn, 1) := by decide +kernel
theorem dL_pointOf_20 : decode cL_pointOf 20 = .ok (.iload_n 3, 1) := by decide +kernel
theorem dL_pointOf_21 : decode cL_pointOf 21 = .ok (.ireturn, 1) := by decide +kernel
set_option maxRecDepth 20000 in
theorem ggL_enough_X3_enough : GoodIn wsL_enough wsX3_enough := goodIn_ca (goodIn_r _ [6, 7, 8, 9, 10, 11, 5, 12, 13, 14, 15, 16, 17, 18, 19, 20, 21, 22, 23, 24, 25, 26, 27, 28, 29, 30, 31, 32, 33, 34, 35, 36, 37, 38, 39, 40, 41, 42, 43, 44, 45, 46, 47, 48, 49, 50, 51, 52, 53, 54] (by decide +kernel) (by decide +kernel)) (goodIn_sub (fun _ h => List.mem_cons_of_mem _ (List.mem_append_right _ h)) (by decide +kernel))
set_option maxRecDepth 20000 in
theorem gL_enough_X3_enough : GoodIn wsL_enough (wsV RL 47 RX3 yX3_enough wsX3_enough) := goodIn_app (goodIn_of _ (by decide +kernel)) ggL_enough_X3_enough
theorem dL_enough_0 : decode cL_enough 0 = .ok (.aload_n 0, 1) := by decide +kernel
theorem dL_enough_1 : decode cL_enough 1 = .ok (.iload_n 1, 1) := by decide +kernel
theorem dL_enough_2 : decode cL_enough 2 = .ok (.iload_n 2, 1) := by decide +kernel
theorem dL_enough_3 : decode cL_enough 3 = .ok (.invokevirtual 47, 3) := by decide +kernel
theorem dL_enough_6 : decode cL_enough 6 = .ok (.istore_n 3, 1) := by decide +kernel
theorem dL_enough_7 : decode cL_enough 7 = .ok (.goto 8, 3) := by decide +kernel
theorem dL_enough_10 : decode cL_enough 10 = .ok (.astore 4, 2) := by decide +kernel
theorem dL_enough_12 : decode cL_enough 12 = .ok (.bipush (-32), 2) := by decide +kernel
theorem dL_enough_14 : decode cL_enough 14 = .ok (.ireturn, 1) := by decide +kernel
theorem dL_enough_15 : decode cL_enough 15 = .ok (.iload_n 3, 1) := by decide +kernel
theorem dL_enough_16 : decode cL_enough 16 = .ok (.ireturn, 1) := by decide +kernel
set_option maxRecDepth 20000 in
theorem ggL_ifTurned_X3_ifTurned : GoodIn wsL_ifTurned wsX3_ifTurned := goodIn_ca (goodIn_ca (goodIn_r _ [7, 8, 9, 10, 11, 12, 13, 14, 6, 15, 16, 17, 18, 19, 20, 21, 22, 23, 24, 25, 26, 27, 28, 29, 30, 31, 32, 33, 34, 35, 36, 37, 38, 39, 40, 41, 42, 43, 44, 45, 46, 47, 48, 49, 50, 51] (by decide +kernel) (by decide +kernel)) (goodIn_sub (fun _ h => List.mem_cons_of_mem _ (List.mem_append_left _ (List.mem_append_right _ h))) (by decide +kernel))) (goodIn_sub (fun _ h => List.mem_cons_of_mem _ (List.mem_append_right _ h)) (by decide +kernel))
set_option maxRecDepth 20000 in
theorem gL_ifTurned_X3_ifTurned : GoodIn wsL_ifTurned (wsV RL 50 RX3 yX3_ifTurned wsX3_ifTurned) := goodIn_app (goodIn_of _ (by decide +kernel)) ggL_ifTurned_X3_ifTurned
theorem dL_ifTurned_0 : decode cL_ifTurned 0 = .ok (.aload_n 0, 1) := by decide +kernel
theorem dL_ifTurned_1 : decode cL_ifTurned 1 = .ok (.iload_n 1, 1) := by decide +kernel
theorem dL_ifTurned_2 : decode cL_ifTurned 2 = .ok (.iload_n 2, 1) := by decide +kernel
theorem dL_ifTurned_3 : decode cL_ifTurned 3 = .ok (.invokevirtual 50, 3) := by decide +kernel
theorem dL_ifTurned_6 : decode cL_ifTurned 6 = .ok (.istore_n 3, 1) := by decide +kernel
theorem dL_ifTurned_7 : decode cL_ifTurned 7 = .ok (.goto 13, 3) := by decide +kernel
theorem dL_ifTurned_10 : decode cL_ifTurned 10 = .ok (.astore 4, 2) := by decide +kernel
theorem dL_ifTurned_12 : decode cL_ifTurned 12 = .ok (.bipush (-31), 2) := by decide +kernel
theorem dL_ifTurned_14 : decode cL_ifTurned 14 = .ok (.ireturn, 1) := by decide +kernel
theorem dL_ifTurned_15 : decode cL_ifTurned 15 = .ok (.astore 4, 2) := by decide +kernel
theorem dL_ifTurned_17 : decode cL_ifTurned 17 = .ok (.bipush (-32), 2) := by decide +kernel
theorem dL_ifTurned_19 : decode cL_ifTurned 19 = .ok (.ireturn, 1) := by decide +kernel
theorem dL_ifTurned_20 : decode cL_ifTurned 20 = .ok (.iload_n 3, 1) := by decide +kernel
theorem dL_ifTurned_21 : decode cL_ifTurned 21 = .ok (.ireturn, 1) := by decide +kernel
theorem dL_wave_0 : decode cL_wave 0 = .ok (.iconst 1, 1) := by decide +kernel
theorem dL_wave_1 : decode cL_wave 1 = .ok (.istore_n 2, 1) := by decide +kernel
theorem dL_wave_2 : decode cL_wave 2 = .ok (.iconst 1, 1) := by decide +kernel
theorem dL_wave_3 : decode cL_wave 3 = .ok (.istore_n 3, 1) := by decide +kernel
theorem dL_wave_4 : decode cL_wave 4 = .ok (.iload_n 3, 1) := by decide +kernel
theorem dL_wave_5 : decode cL_wave 5 = .ok (.bipush 8, 2) := by decide +kernel
theorem dL_wave_7 : decode cL_wave 7 = .ok (.if_icmp .ge 30, 3) := by decide +kernel
theorem dL_wave_10 : decode cL_wave 10 = .ok (.iload_n 0, 1) := by decide +kernel
theorem dL_wave_11 : decode cL_wave 11 = .ok (.iload_n 3, 1) := by decide +kernel
theorem dL_wave_12 : decode cL_wave 12 = .ok (.idiv, 1) := by decide +kernel
theorem dL_wave_13 : decode cL_wave 13 = .ok (.iload_n 1, 1) := by decide +kernel
theorem dL_wave_14 : decode cL_wave 14 = .ok (.iload_n 3, 1) := by decide +kernel
theorem dL_wave_15 : decode cL_wave 15 = .ok (.idiv, 1) := by decide +kernel
theorem dL_wave_16 : decode cL_wave 16 = .ok (.iand, 1) := by decide +kernel
theorem dL_wave_17 : decode cL_wave 17 = .ok (.iconst 1, 1) := by decide +kernel
theorem dL_wave_18 : decode cL_wave 18 = .ok (.iand, 1) := by decide +kernel
theorem dL_wave_19 : decode cL_wave 19 = .ok (.iconst 1, 1) := by decide +kernel
theorem dL_wave_20 : decode cL_wave 20 = .ok (.if_icmp .ne 8, 3) := by decide +kernel
theorem dL_wave_23 : decode cL_wave 23 = .ok (.iload_n 2, 1) := by decide +kernel
theorem dL_wave_24 : decode cL_wave 24 = .ok (.ineg, 1) := by decide +kernel
theorem dL_wave_25 : decode cL_wave 25 = .ok (.goto 4, 3) := by decide +kernel
theorem dL_wave_28 : decode cL_wave 28 = .ok (.iload_n 2, 1) := by decide +kernel
theorem dL_wave_29 : decode cL_wave 29 = .ok (.istore_n 2, 1) := by decide +kernel
theorem dL_wave_30 : decode cL_wave 30 = .ok (.iload_n 3, 1) := by decide +kernel
theorem dL_wave_31 : decode cL_wave 31 = .ok (.iconst 2, 1) := by decide +kernel
theorem dL_wave_32 : decode cL_wave 32 = .ok (.imul, 1) := by decide +kernel
theorem dL_wave_33 : decode cL_wave 33 = .ok (.istore_n 3, 1) := by decide +kernel
theorem dL_wave_34 : decode cL_wave 34 = .ok (.goto (-30), 3) := by decide +kernel
theorem dL_wave_37 : decode cL_wave 37 = .ok (.iload_n 2, 1) := by decide +kernel
theorem dL_wave_38 : decode cL_wave 38 = .ok (.ireturn, 1) := by decide +kernel
theorem dL_halves_0 : decode cL_halves 0 = .ok (.iconst 4, 1) := by decide +kernel
theorem dL_halves_1 : decode cL_halves 1 = .ok (.istore_n 1, 1) := by decide +kernel
theorem dL_halves_2 : decode cL_halves 2 = .ok (.iload_n 1, 1) := by decide +kernel
theorem dL_halves_3 : decode cL_halves 3 = .ok (.ifCond .le 63, 3) := by decide +kernel
theorem dL_halves_6 : decode cL_halves 6 = .ok (.iconst 0, 1) := by decide +kernel
theorem dL_halves_7 : decode cL_halves 7 = .ok (.istore_n 2, 1) := by decide +kernel
theorem dL_halves_8 : decode cL_halves 8 = .ok (.iload_n 2, 1) := by decide +kernel
theorem dL_halves_9 : decode cL_halves 9 = .ok (.bipush 8, 2) := by decide +kernel
theorem dL_halves_11 : decode cL_halves 11 = .ok (.if_icmp .ge 48, 3) := by decide +kernel
theorem dL_halves_14 : decode cL_halves 14 = .ok (.iload_n 2, 1) := by decide +kernel
theorem dL_halves_15 : decode cL_halves 15 = .ok (.iload_n 1, 1) := by decide +kernel
theorem dL_halves_16 : decode cL_halves 16 = .ok (.idiv, 1) := by decide +kernel
theorem dL_halves_17 : decode cL_halves 17 = .ok (.iconst 1, 1) := by decide +kernel
theorem dL_halves_18 : decode cL_halves 18 = .ok (.iand, 1) := by decide +kernel
theorem dL_halves_19 : decode cL_halves 19 = .ok (.iconst 1, 1) := by decide +kernel
theorem dL_halves_20 : decode cL_halves 20 = .ok (.if_icmp .ne 6, 3) := by decide +kernel
theorem dL_halves_23 : decode cL_halves 23 = .ok (.goto 30, 3) := by decide +kernel
theorem dL_halves_26 : decode cL_halves 26 = .ok (.aload_n 0, 1) := by decide +kernel
theorem dL_halves_27 : decode cL_halves 27 = .ok (.iload_n 2, 1) := by decide +kernel
theorem dL_halves_28 : decode cL_halves 28 = .ok (.iaload, 1) := by decide +kernel
theorem dL_halves_29 : decode cL_halves 29 = .ok (.istore_n 3, 1) := by decide +kernel
theorem dL_halves_30 : decode cL_halves 30 = .ok (.aload_n 0, 1) := by decide +kernel
theorem dL_halves_31 : decode cL_halves 31 = .ok (.iload_n 2, 1) := by decide +kernel
theorem dL_halves_32 : decode cL_halves 32 = .ok (.iload_n 1, 1) := by decide +kernel
theorem dL_halves_33 : decode cL_halves 33 = .ok (.iadd, 1) := by decide +kernel
theorem dL_halves_34 : decode cL_halves 34 = .ok (.iaload, 1) := by decide +kernel
theorem dL_halves_35 : decode cL_halves 35 = .ok (.istore 4, 2) := by decide +kernel
theorem dL_halves_37 : decode cL_halves 37 = .ok (.aload_n 0, 1) := by decide +kernel
theorem dL_halves_38 : decode cL_halves 38 = .ok (.iload_n 2, 1) := by decide +kernel
theorem dL_halves_39 : decode cL_halves 39 = .ok (.iload_n 3, 1) := by decide +kernel
theorem dL_halves_40 : decode cL_halves 40 = .ok (.iload 4, 2) := by decide +kernel
theorem dL_halves_42 : decode cL_halves 42 = .ok (.iadd, 1) := by decide +kernel
theorem dL_halves_43 : decode cL_halves 43 = .ok (.iastore, 1) := by decide +kernel
theorem dL_halves_44 : decode cL_halves 44 = .ok (.aload_n 0, 1) := by decide +kernel
theorem dL_halves_45 : decode cL_halves 45 = .ok (.iload_n 2, 1) := by decide +kernel
theorem dL_halves_46 : decode cL_halves 46 = .ok (.iload_n 1, 1) := by decide +kernel
theorem dL_halves_47 : decode cL_halves 47 = .ok (.iadd, 1) := by decide +kernel
theorem dL_halves_48 : decode cL_halves 48 = .ok (.iload_n 3, 1) := by decide +kernel
theorem dL_halves_49 : decode cL_halves 49 = .ok (.iload 4, 2) := by decide +kernel
theorem dL_halves_51 : decode cL_halves 51 = .ok (.isub, 1) := by decide +kernel
theorem dL_halves_52 : decode cL_halves 52 = .ok (.iastore, 1) := by decide +kernel
theorem dL_halves_53 : decode cL_halves 53 = .ok (.iinc 2 1, 3) := by decide +kernel
theorem dL_halves_56 : decode cL_halves 56 = .ok (.goto (-48), 3) := by decide +kernel
theorem dL_halves_59 : decode cL_halves 59 = .ok (.iload_n 1, 1) := by decide +kernel
theorem dL_halves_60 : decode cL_halves 60 = .ok (.iconst 2, 1) := by decide +kernel
theorem dL_halves_61 : decode cL_halves 61 = .ok (.idiv, 1) := by decide +kernel
theorem dL_halves_62 : decode cL_halves 62 = .ok (.istore_n 1, 1) := by decide +kernel
theorem dL_halves_63 : decode cL_halves 63 = .ok (.goto (-61), 3) := by decide +kernel
theorem dL_halves_66 : decode cL_halves 66 = .ok (.return_, 1) := by decide +kernel
set_option maxRecDepth 20000 in
theorem ggL_draw_L_halves : GoodIn wsL_draw wsL_halves := goodIn_r _ [4] (by decide +kernel) (by decide +kernel)
set_option maxRecDepth 20000 in
theorem gL_draw_L_halves : GoodIn wsL_draw (va_wsS RL 53 yL_halves wsL_halves) := goodIn_app (goodIn_of _ (by decide +kernel)) ggL_draw_L_halves
theorem dL_draw_0 : decode cL_draw 0 = .ok (.iconst 0, 1) := by decide +kernel
theorem dL_draw_1 : decode cL_draw 1 = .ok (.istore_n 3, 1) := by decide +kernel
theorem dL_draw_2 : decode cL_draw 2 = .ok (.iload_n 3, 1) := by decide +kernel
theorem dL_draw_3 : decode cL_draw 3 = .ok (.bipush 8, 2) := by decide +kernel
theorem dL_draw_5 : decode cL_draw 5 = .ok (.if_icmp .ge 26, 3) := by decide +kernel
theorem dL_draw_8 : decode cL_draw 8 = .ok (.aload_n 2, 1) := by decide +kernel
theorem dL_draw_9 : decode cL_draw 9 = .ok (.iload_n 3, 1) := by decide +kernel
theorem dL_draw_10 : decode cL_draw 10 = .ok (.aload_n 1, 1) := by decide +kernel
theorem dL_draw_11 : decode cL_draw 11 = .ok (.iload_n 3, 1) := by decide +kernel
theorem dL_draw_12 : decode cL_draw 12 = .ok (.iaload, 1) := by decide +kernel
theorem dL_draw_13 : decode cL_draw 13 = .ok (.iconst 1, 1) := by decide +kernel
theorem dL_draw_14 : decode cL_draw 14 = .ok (.if_icmp .ne 7, 3) := by decide +kernel
theorem dL_draw_17 : decode cL_draw 17 = .ok (.iconst 0, 1) := by decide +kernel
theorem dL_draw_18 : decode cL_draw 18 = .ok (.goto 6, 3) := by decide +kernel
theorem dL_draw_21 : decode cL_draw 21 = .ok (.aload_n 0, 1) := by decide +kernel
theorem dL_draw_22 : decode cL_draw 22 = .ok (.iload_n 3, 1) := by decide +kernel
theorem dL_draw_23 : decode cL_draw 23 = .ok (.iaload, 1) := by decide +kernel
theorem dL_draw_24 : decode cL_draw 24 = .ok (.iastore, 1) := by decide +kernel
theorem dL_draw_25 : decode cL_draw 25 = .ok (.iinc 3 1, 3) := by decide +kernel
theorem dL_draw_28 : decode cL_draw 28 = .ok (.goto (-26), 3) := by decide +kernel
theorem dL_draw_31 : decode cL_draw 31 = .ok (.aload_n 2, 1) := by decide +kernel
theorem dL_draw_32 : decode cL_draw 32 = .ok (.invokestatic 53, 3) := by decide +kernel
theorem dL_draw_35 : decode cL_draw 35 = .ok (.return_, 1) := by decide +kernel
theorem dL_amount_0 : decode cL_amount 0 = .ok (.iload_n 0, 1) := by decide +kernel
theorem dL_amount_1 : decode cL_amount 1 = .ok (.ifCond .ge 8, 3) := by decide +kernel
theorem dL_amount_4 : decode cL_amount 4 = .ok (.iload_n 0, 1) := by decide +kernel
theorem dL_amount_5 : decode cL_amount 5 = .ok (.ineg, 1) := by decide +kernel
theorem dL_amount_6 : decode cL_amount 6 = .ok (.goto 4, 3) := by decide +kernel
theorem dL_amount_9 : decode cL_amount 9 = .ok (.iload_n 0, 1) := by decide +kernel
theorem dL_amount_10 : decode cL_amount 10 = .ok (.ireturn, 1) := by decide +kernel
theorem dL_eighth_0 : decode cL_eighth 0 = .ok (.iload_n 0, 1) := by decide +kernel
theorem dL_eighth_1 : decode cL_eighth 1 = .ok (.ldc 59, 2) := by decide +kernel
theorem dL_eighth_3 : decode cL_eighth 3 = .ok (.iadd, 1) := by decide +kernel
theorem dL_eighth_4 : decode cL_eighth 4 = .ok (.bipush 8, 2) := by decide +kernel
theorem dL_eighth_6 : decode cL_eighth 6 = .ok (.idiv, 1) := by decide +kernel
theorem dL_eighth_7 : decode cL_eighth 7 = .ok (.ldc 60, 2) := by decide +kernel
theorem dL_eighth_9 : decode cL_eighth 9 = .ok (.isub, 1) := by decide +kernel
theorem dL_eighth_10 : decode cL_eighth 10 = .ok (.ireturn, 1) := by decide +kernel
theorem dL_turning_0 : decode cL_turning 0 = .ok (.iconst 0, 1) := by decide +kernel
theorem dL_turning_1 : decode cL_turning 1 = .ok (.istore_n 1, 1) := by decide +kernel
theorem dL_turning_2 : decode cL_turning 2 = .ok (.iconst 0, 1) := by decide +kernel
theorem dL_turning_3 : decode cL_turning 3 = .ok (.istore_n 2, 1) := by decide +kernel
theorem dL_turning_4 : decode cL_turning 4 = .ok (.iload_n 2, 1) := by decide +kernel
theorem dL_turning_5 : decode cL_turning 5 = .ok (.bipush 8, 2) := by decide +kernel
theorem dL_turning_7 : decode cL_turning 7 = .ok (.if_icmp .ge 23, 3) := by decide +kernel
theorem dL_turning_10 : decode cL_turning 10 = .ok (.iload_n 1, 1) := by decide +kernel
theorem dL_turning_11 : decode cL_turning 11 = .ok (.aload_n 0, 1) := by decide +kernel
theorem dL_turning_12 : decode cL_turning 12 = .ok (.iload_n 2, 1) := by decide +kernel
theorem dL_turning_13 : decode cL_turning 13 = .ok (.iaload, 1) := by decide +kernel
theorem dL_turning_14 : decode cL_turning 14 = .ok (.ifCond .ne 7, 3) := by decide +kernel
theorem dL_turning_17 : decode cL_turning 17 = .ok (.iconst 0, 1) := by decide +kernel
theorem dL_turning_18 : decode cL_turning 18 = .ok (.goto 4, 3) := by decide +kernel
theorem dL_turning_21 : decode cL_turning 21 = .ok (.iconst 1, 1) := by decide +kernel
theorem dL_turning_22 : decode cL_turning 22 = .ok (.iadd, 1) := by decide +kernel
theorem dL_turning_23 : decode cL_turning 23 = .ok (.istore_n 1, 1) := by decide +kernel
theorem dL_turning_24 : decode cL_turning 24 = .ok (.iinc 2 1, 3) := by decide +kernel
theorem dL_turning_27 : decode cL_turning 27 = .ok (.goto (-23), 3) := by decide +kernel
theorem dL_turning_30 : decode cL_turning 30 = .ok (.iload_n 1, 1) := by decide +kernel
theorem dL_turning_31 : decode cL_turning 31 = .ok (.ireturn, 1) := by decide +kernel
set_option maxRecDepth 20000 in
theorem ggL_areWheels_L_halves : GoodIn wsL_areWheels wsL_halves := goodIn_r _ [5] (by decide +kernel) (by decide +kernel)
set_option maxRecDepth 20000 in
theorem gL_areWheels_L_halves : GoodIn wsL_areWheels (va_wsS RL 53 yL_halves wsL_halves) := goodIn_app (goodIn_of _ (by decide +kernel)) ggL_areWheels_L_halves
set_option maxRecDepth 20000 in
theorem ggL_areWheels_L_wave : GoodIn wsL_areWheels wsL_wave := goodIn_r _ [8] (by decide +kernel) (by decide +kernel)
set_option maxRecDepth 20000 in
theorem gL_areWheels_L_wave : GoodIn wsL_areWheels (va_wsS RL 61 yL_wave wsL_wave) := goodIn_app (goodIn_of _ (by decide +kernel)) ggL_areWheels_L_wave
set_option maxRecDepth 20000 in
theorem ggL_areWheels_X3_wheelOf : GoodIn wsL_areWheels wsX3_wheelOf := goodIn_ca (goodIn_ca (goodIn_r _ [13, 14, 15, 16, 17, 18, 19, 12, 20, 21, 22, 23, 24, 25, 26, 27, 28, 29, 30, 31, 32, 33, 34, 35, 36, 37, 38, 39, 40, 41, 42, 43, 44, 45, 46, 47, 48, 49, 50, 51, 52, 53, 54, 125, 126, 127, 128, 129, 130, 131, 132, 133, 134] (by decide +kernel) (by decide +kernel)) (goodIn_sub (fun _ h => List.mem_cons_of_mem _ (List.mem_append_left _ (List.mem_append_right _ h))) (by decide +kernel))) (goodIn_sub (fun _ h => List.mem_cons_of_mem _ (List.mem_append_right _ h)) (by decide +kernel))
set_option maxRecDepth 20000 in
theorem gL_areWheels_X3_wheelOf : GoodIn wsL_areWheels (wsV RL 38 RX3 yX3_wheelOf wsX3_wheelOf) := goodIn_app (goodIn_of _ (by decide +kernel)) ggL_areWheels_X3_wheelOf
set_option maxRecDepth 20000 in
theorem ggL_areWheels_L_eighth : GoodIn wsL_areWheels wsL_eighth := goodIn_r _ [57, 58, 59] (by decide +kernel) (by decide +kernel)
set_option maxRecDepth 20000 in
theorem gL_areWheels_L_eighth : GoodIn wsL_areWheels (va_wsS RL 64 yL_eighth wsL_eighth) := goodIn_app (goodIn_of _ (by decide +kernel)) ggL_areWheels_L_eighth
set_option maxRecDepth 20000 in
theorem ggL_areWheels_X3_count : GoodIn wsL_areWheels wsX3_count := goodIn_ca (goodIn_r _ [63, 16, 17, 21, 22, 12, 23, 64, 65, 66, 67, 28, 68, 69, 30, 70, 71, 72, 40, 41, 42, 43, 44, 45, 46, 73, 74, 75, 76, 77, 78, 79, 80, 81, 82, 83, 84, 85, 86, 87, 88, 29, 31, 32, 33, 38, 39, 89, 90, 91, 92, 93, 94, 95, 96, 97, 98, 99, 100, 101, 102, 103, 104, 105, 37, 106, 107, 108, 109, 110, 111, 112, 113, 114, 115, 116, 117, 125, 126, 127, 128, 129, 130, 131, 132, 133, 134, 135, 136, 137] (by decide +kernel) (by decide +kernel)) (goodIn_sub (fun _ h => List.mem_cons_of_mem _ (List.mem_append_right _ h)) (by decide +kernel))
set_option maxRecDepth 20000 in
theorem gL_areWheels_X3_count : GoodIn wsL_areWheels (wsV RL 67 RX3 yX3_count wsX3_count) := goodIn_app (goodIn_of _ (by decide +kernel)) ggL_areWheels_X3_count
set_option maxRecDepth 20000 in
theorem ggL_areWheels_L_turning : GoodIn wsL_areWheels wsL_turning := goodIn_r _ [120] (by decide +kernel) (by decide +kernel)
set_option maxRecDepth 20000 in
theorem gL_areWheels_L_turning : GoodIn wsL_areWheels (va_wsS RL 70 yL_turning wsL_turning) := goodIn_app (goodIn_of _ (by decide +kernel)) ggL_areWheels_L_turning
set_option maxRecDepth 20000 in
theorem ggL_areWheels_X3_mainShare : GoodIn wsL_areWheels wsX3_mainShare := goodIn_r _ [124, 28, 77, 78, 79, 80, 85, 30, 86, 87, 72, 88, 29, 31, 32, 33, 125, 126, 127, 128, 129, 130, 131, 132, 133, 134] (by decide +kernel) (by decide +kernel)
set_option maxRecDepth 20000 in
theorem gL_areWheels_X3_mainShare : GoodIn wsL_areWheels (wsV RL 74 RX3 yX3_mainShare wsX3_mainShare) := goodIn_app (goodIn_of _ (by decide +kernel)) ggL_areWheels_X3_mainShare
theorem dL_areWheels_0 : decode cL_areWheels 0 = .ok (.iconst 0, 1) := by decide +kernel
theorem dL_areWheels_1 : decode cL_areWheels 1 = .ok (.istore 4, 2) := by decide +kernel
theorem dL_areWheels_3 : decode cL_areWheels 3 = .ok (.bipush 8, 2) := by decide +kernel
theorem dL_areWheels_5 : decode cL_areWheels 5 = .ok (.newarray .int, 2) := by decide +kernel
theorem dL_areWheels_7 : decode cL_areWheels 7 = .ok (.astore 5, 2) := by decide +kernel
theorem dL_areWheels_9 : decode cL_areWheels 9 = .ok (.iconst 0, 1) := by decide +kernel
theorem dL_areWheels_10 : decode cL_areWheels 10 = .ok (.istore 6, 2) := by decide +kernel
theorem dL_areWheels_12 : decode cL_areWheels 12 = .ok (.iload 6, 2) := by decide +kernel
theorem dL_areWheels_14 : decode cL_areWheels 14 = .ok (.bipush 8, 2) := by decide +kernel
theorem dL_areWheels_16 : decode cL_areWheels 16 = .ok (.if_icmp .ge 18, 3) := by decide +kernel
theorem dL_areWheels_19 : decode cL_areWheels 19 = .ok (.aload 5, 2) := by decide +kernel
theorem dL_areWheels_21 : decode cL_areWheels 21 = .ok (.iload 6, 2) := by decide +kernel
theorem dL_areWheels_23 : decode cL_areWheels 23 = .ok (.aload_n 3, 1) := by decide +kernel
theorem dL_areWheels_24 : decode cL_areWheels 24 = .ok (.iload 6, 2) := by decide +kernel
theorem dL_areWheels_26 : decode cL_areWheels 26 = .ok (.iaload, 1) := by decide +kernel
theorem dL_areWheels_27 : decode cL_areWheels 27 = .ok (.iastore, 1) := by decide +kernel
theorem dL_areWheels_28 : decode cL_areWheels 28 = .ok (.iinc 6 1, 3) := by decide +kernel
theorem dL_areWheels_31 : decode cL_areWheels 31 = .ok (.goto (-19), 3) := by decide +kernel
theorem dL_areWheels_34 : decode cL_areWheels 34 = .ok (.aload 5, 2) := by decide +kernel
theorem dL_areWheels_36 : decode cL_areWheels 36 = .ok (.invokestatic 53, 3) := by decide +kernel
theorem dL_areWheels_39 : decode cL_areWheels 39 = .ok (.iconst 0, 1) := by decide +kernel
theorem dL_areWheels_40 : decode cL_areWheels 40 = .ok (.istore 6, 2) := by decide +kernel
theorem dL_areWheels_42 : decode cL_areWheels 42 = .ok (.iload 6, 2) := by decide +kernel
theorem dL_areWheels_44 : decode cL_areWheels 44 = .ok (.bipush 8, 2) := by decide +kernel
theorem dL_areWheels_46 : decode cL_areWheels 46 = .ok (.if_icmp .ge 126, 3) := by decide +kernel
theorem dL_areWheels_49 : decode cL_areWheels 49 = .ok (.iconst 0, 1) := by decide +kernel
theorem dL_areWheels_50 : decode cL_areWheels 50 = .ok (.istore 7, 2) := by decide +kernel
theorem dL_areWheels_52 : decode cL_areWheels 52 = .ok (.iconst 0, 1) := by decide +kernel
theorem dL_areWheels_53 : decode cL_areWheels 53 = .ok (.istore 8, 2) := by decide +kernel
theorem dL_areWheels_55 : decode cL_areWheels 55 = .ok (.iload 8, 2) := by decide +kernel
theorem dL_areWheels_57 : decode cL_areWheels 57 = .ok (.bipush 7, 2) := by decide +kernel
theorem dL_areWheels_59 : decode cL_areWheels 59 = .ok (.if_icmp .ge 38, 3) := by decide +kernel
theorem dL_areWheels_62 : decode cL_areWheels 62 = .ok (.iload 7, 2) := by decide +kernel
theorem dL_areWheels_64 : decode cL_areWheels 64 = .ok (.iload 6, 2) := by decide +kernel
theorem dL_areWheels_66 : decode cL_areWheels 66 = .ok (.iload 8, 2) := by decide +kernel
theorem dL_areWheels_68 : decode cL_areWheels 68 = .ok (.invokestatic 61, 3) := by decide +kernel
theorem dL_areWheels_71 : decode cL_areWheels 71 = .ok (.iload 6, 2) := by decide +kernel
theorem dL_areWheels_73 : decode cL_areWheels 73 = .ok (.iload 8, 2) := by decide +kernel
theorem dL_areWheels_75 : decode cL_areWheels 75 = .ok (.iconst 1, 1) := by decide +kernel
theorem dL_areWheels_76 : decode cL_areWheels 76 = .ok (.iadd, 1) := by decide +kernel
theorem dL_areWheels_77 : decode cL_areWheels 77 = .ok (.invokestatic 61, 3) := by decide +kernel
theorem dL_areWheels_80 : decode cL_areWheels 80 = .ok (.if_icmp .eq 7, 3) := by decide +kernel
theorem dL_areWheels_83 : decode cL_areWheels 83 = .ok (.iconst 1, 1) := by decide +kernel
theorem dL_areWheels_84 : decode cL_areWheels 84 = .ok (.goto 4, 3) := by decide +kernel
theorem dL_areWheels_87 : decode cL_areWheels 87 = .ok (.iconst 0, 1) := by decide +kernel
theorem dL_areWheels_88 : decode cL_areWheels 88 = .ok (.iadd, 1) := by decide +kernel
theorem dL_areWheels_89 : decode cL_areWheels 89 = .ok (.istore 7, 2) := by decide +kernel
theorem dL_areWheels_91 : decode cL_areWheels 91 = .ok (.iinc 8 1, 3) := by decide +kernel
theorem dL_areWheels_94 : decode cL_areWheels 94 = .ok (.goto (-39), 3) := by decide +kernel
theorem dL_areWheels_97 : decode cL_areWheels 97 = .ok (.iload 4, 2) := by decide +kernel
theorem dL_areWheels_99 : decode cL_areWheels 99 = .ok (.aload_n 2, 1) := by decide +kernel
theorem dL_areWheels_100 : decode cL_areWheels 100 = .ok (.iload 6, 2) := by decide +kernel
theorem dL_areWheels_102 : decode cL_areWheels 102 = .ok (.iaload, 1) := by decide +kernel
theorem dL_areWheels_103 : decode cL_areWheels 103 = .ok (.iadd, 1) := by decide +kernel
theorem dL_areWheels_104 : decode cL_areWheels 104 = .ok (.istore 4, 2) := by decide +kernel
theorem dL_areWheels_106 : decode cL_areWheels 106 = .ok (.aload_n 0, 1) := by decide +kernel
theorem dL_areWheels_107 : decode cL_areWheels 107 = .ok (.iload 6, 2) := by decide +kernel
theorem dL_areWheels_109 : decode cL_areWheels 109 = .ok (.iconst 0, 1) := by decide +kernel
theorem dL_areWheels_110 : decode cL_areWheels 110 = .ok (.invokevirtual 38, 3) := by decide +kernel
theorem dL_areWheels_113 : decode cL_areWheels 113 = .ok (.aload_n 1, 1) := by decide +kernel
theorem dL_areWheels_114 : decode cL_areWheels 114 = .ok (.iload 6, 2) := by decide +kernel
theorem dL_areWheels_116 : decode cL_areWheels 116 = .ok (.iaload, 1) := by decide +kernel
theorem dL_areWheels_117 : decode cL_areWheels 117 = .ok (.if_icmp .ne 47, 3) := by decide +kernel
theorem dL_areWheels_120 : decode cL_areWheels 120 = .ok (.aload_n 0, 1) := by decide +kernel
theorem dL_areWheels_121 : decode cL_areWheels 121 = .ok (.iload 6, 2) := by decide +kernel
theorem dL_areWheels_123 : decode cL_areWheels 123 = .ok (.iconst 1, 1) := by decide +kernel
theorem dL_areWheels_124 : decode cL_areWheels 124 = .ok (.invokevirtual 38, 3) := by decide +kernel
theorem dL_areWheels_127 : decode cL_areWheels 127 = .ok (.aload_n 2, 1) := by decide +kernel
theorem dL_areWheels_128 : decode cL_areWheels 128 = .ok (.iload 6, 2) := by decide +kernel
theorem dL_areWheels_130 : decode cL_areWheels 130 = .ok (.iaload, 1) := by decide +kernel
theorem dL_areWheels_131 : decode cL_areWheels 131 = .ok (.if_icmp .ne 33, 3) := by decide +kernel
theorem dL_areWheels_134 : decode cL_areWheels 134 = .ok (.aload_n 0, 1) := by decide +kernel
theorem dL_areWheels_135 : decode cL_areWheels 135 = .ok (.iload 6, 2) := by decide +kernel
theorem dL_areWheels_137 : decode cL_areWheels 137 = .ok (.iconst 2, 1) := by decide +kernel
theorem dL_areWheels_138 : decode cL_areWheels 138 = .ok (.invokevirtual 38, 3) := by decide +kernel
theorem dL_areWheels_141 : decode cL_areWheels 141 = .ok (.aload 5, 2) := by decide +kernel
theorem dL_areWheels_143 : decode cL_areWheels 143 = .ok (.iload 6, 2) := by decide +kernel
theorem dL_areWheels_145 : decode cL_areWheels 145 = .ok (.iaload, 1) := by decide +kernel
theorem dL_areWheels_146 : decode cL_areWheels 146 = .ok (.invokestatic 64, 3) := by decide +kernel
theorem dL_areWheels_149 : decode cL_areWheels 149 = .ok (.if_icmp .ne 15, 3) := by decide +kernel
theorem dL_areWheels_152 : decode cL_areWheels 152 = .ok (.aload_n 0, 1) := by decide +kernel
theorem dL_areWheels_153 : decode cL_areWheels 153 = .ok (.iload 6, 2) := by decide +kernel
theorem dL_areWheels_155 : decode cL_areWheels 155 = .ok (.iconst 3, 1) := by decide +kernel
theorem dL_areWheels_156 : decode cL_areWheels 156 = .ok (.invokevirtual 38, 3) := by decide +kernel
theorem dL_areWheels_159 : decode cL_areWheels 159 = .ok (.iload 7, 2) := by decide +kernel
theorem dL_areWheels_161 : decode cL_areWheels 161 = .ok (.if_icmp .eq 5, 3) := by decide +kernel
theorem dL_areWheels_164 : decode cL_areWheels 164 = .ok (.iconst 0, 1) := by decide +kernel
theorem dL_areWheels_165 : decode cL_areWheels 165 = .ok (.ireturn, 1) := by decide +kernel
theorem dL_areWheels_166 : decode cL_areWheels 166 = .ok (.iinc 6 1, 3) := by decide +kernel
theorem dL_areWheels_169 : decode cL_areWheels 169 = .ok (.goto (-127), 3) := by decide +kernel
theorem dL_areWheels_172 : decode cL_areWheels 172 = .ok (.iconst 0, 1) := by decide +kernel
theorem dL_areWheels_173 : decode cL_areWheels 173 = .ok (.istore 6, 2) := by decide +kernel
theorem dL_areWheels_175 : decode cL_areWheels 175 = .ok (.iconst 0, 1) := by decide +kernel
theorem dL_areWheels_176 : decode cL_areWheels 176 = .ok (.istore 7, 2) := by decide +kernel
theorem dL_areWheels_178 : decode cL_areWheels 178 = .ok (.iconst 0, 1) := by decide +kernel
theorem dL_areWheels_179 : decode cL_areWheels 179 = .ok (.istore 8, 2) := by decide +kernel
theorem dL_areWheels_181 : decode cL_areWheels 181 = .ok (.iload 8, 2) := by decide +kernel
theorem dL_areWheels_183 : decode cL_areWheels 183 = .ok (.bipush 8, 2) := by decide +kernel
theorem dL_areWheels_185 : decode cL_areWheels 185 = .ok (.if_icmp .ge 55, 3) := by decide +kernel
theorem dL_areWheels_188 : decode cL_areWheels 188 = .ok (.aload_n 2, 1) := by decide +kernel
theorem dL_areWheels_189 : decode cL_areWheels 189 = .ok (.iload 8, 2) := by decide +kernel
theorem dL_areWheels_191 : decode cL_areWheels 191 = .ok (.iaload, 1) := by decide +kernel
theorem dL_areWheels_192 : decode cL_areWheels 192 = .ok (.iconst 1, 1) := by decide +kernel
theorem dL_areWheels_193 : decode cL_areWheels 193 = .ok (.if_icmp .ne 7, 3) := by decide +kernel
theorem dL_areWheels_196 : decode cL_areWheels 196 = .ok (.iconst 0, 1) := by decide +kernel
theorem dL_areWheels_197 : decode cL_areWheels 197 = .ok (.goto 12, 3) := by decide +kernel
theorem dL_areWheels_200 : decode cL_areWheels 200 = .ok (.aload_n 1, 1) := by decide +kernel
theorem dL_areWheels_201 : decode cL_areWheels 201 = .ok (.iload 8, 2) := by decide +kernel
theorem dL_areWheels_203 : decode cL_areWheels 203 = .ok (.iaload, 1) := by decide +kernel
theorem dL_areWheels_204 : decode cL_areWheels 204 = .ok (.aload_n 1, 1) := by decide +kernel
theorem dL_areWheels_205 : decode cL_areWheels 205 = .ok (.iload 8, 2) := by decide +kernel
theorem dL_areWheels_207 : decode cL_areWheels 207 = .ok (.iaload, 1) := by decide +kernel
theorem dL_areWheels_208 : decode cL_areWheels 208 = .ok (.imul, 1) := by decide +kernel
theorem dL_areWheels_209 : decode cL_areWheels 209 = .ok (.istore 9, 2) := by decide +kernel
theorem dL_areWheels_211 : decode cL_areWheels 211 = .ok (.iload 9, 2) := by decide +kernel
theorem dL_areWheels_213 : decode cL_areWheels 213 = .ok (.iload 6, 2) := by decide +kernel
theorem dL_areWheels_215 : decode cL_areWheels 215 = .ok (.if_icmp .le 8, 3) := by decide +kernel
theorem dL_areWheels_218 : decode cL_areWheels 218 = .ok (.iload 9, 2) := by decide +kernel
theorem dL_areWheels_220 : decode cL_areWheels 220 = .ok (.goto 5, 3) := by decide +kernel
theorem dL_areWheels_223 : decode cL_areWheels 223 = .ok (.iload 6, 2) := by decide +kernel
theorem dL_areWheels_225 : decode cL_areWheels 225 = .ok (.istore 6, 2) := by decide +kernel
theorem dL_areWheels_227 : decode cL_areWheels 227 = .ok (.iload 7, 2) := by decide +kernel
theorem dL_areWheels_229 : decode cL_areWheels 229 = .ok (.iload 9, 2) := by decide +kernel
theorem dL_areWheels_231 : decode cL_areWheels 231 = .ok (.iadd, 1) := by decide +kernel
theorem dL_areWheels_232 : decode cL_areWheels 232 = .ok (.istore 7, 2) := by decide +kernel
theorem dL_areWheels_234 : decode cL_areWheels 234 = .ok (.iinc 8 1, 3) := by decide +kernel
theorem dL_areWheels_237 : decode cL_areWheels 237 = .ok (.goto (-56), 3) := by decide +kernel
theorem dL_areWheels_240 : decode cL_areWheels 240 = .ok (.aload_n 0, 1) := by decide +kernel
theorem dL_areWheels_241 : decode cL_areWheels 241 = .ok (.iconst 0, 1) := by decide +kernel
theorem dL_areWheels_242 : decode cL_areWheels 242 = .ok (.invokevirtual 67, 3) := by decide +kernel
theorem dL_areWheels_245 : decode cL_areWheels 245 = .ok (.aload_n 1, 1) := by decide +kernel
theorem dL_areWheels_246 : decode cL_areWheels 246 = .ok (.invokestatic 70, 3) := by decide +kernel
theorem dL_areWheels_249 : decode cL_areWheels 249 = .ok (.if_icmp .ne 41, 3) := by decide +kernel
theorem dL_areWheels_252 : decode cL_areWheels 252 = .ok (.aload_n 0, 1) := by decide +kernel
theorem dL_areWheels_253 : decode cL_areWheels 253 = .ok (.iconst 1, 1) := by decide +kernel
theorem dL_areWheels_254 : decode cL_areWheels 254 = .ok (.invokevirtual 67, 3) := by decide +kernel
theorem dL_areWheels_257 : decode cL_areWheels 257 = .ok (.iload 4, 2) := by decide +kernel
theorem dL_areWheels_259 : decode cL_areWheels 259 = .ok (.if_icmp .ne 31, 3) := by decide +kernel
theorem dL_areWheels_262 : decode cL_areWheels 262 = .ok (.aload_n 0, 1) := by decide +kernel
theorem dL_areWheels_263 : decode cL_areWheels 263 = .ok (.invokevirtual 74, 3) := by decide +kernel
theorem dL_areWheels_266 : decode cL_areWheels 266 = .ok (.iload 7, 2) := by decide +kernel
theorem dL_areWheels_268 : decode cL_areWheels 268 = .ok (.ifCond .ne 7, 3) := by decide +kernel
theorem dL_areWheels_271 : decode cL_areWheels 271 = .ok (.dconst 0, 1) := by decide +kernel
theorem dL_areWheels_272 : decode cL_areWheels 272 = .ok (.goto 10, 3) := by decide +kernel
theorem dL_areWheels_275 : decode cL_areWheels 275 = .ok (.iload 6, 2) := by decide +kernel
theorem dL_areWheels_277 : decode cL_areWheels 277 = .ok (.i2d, 1) := by decide +kernel
theorem dL_areWheels_278 : decode cL_areWheels 278 = .ok (.iload 7, 2) := by decide +kernel
theorem dL_areWheels_280 : decode cL_areWheels 280 = .ok (.i2d, 1) := by decide +kernel
theorem dL_areWheels_281 : decode cL_areWheels 281 = .ok (.ddiv, 1) := by decide +kernel
theorem dL_areWheels_282 : decode cL_areWheels 282 = .ok (.dcmp .l, 1) := by decide +kernel
theorem dL_areWheels_283 : decode cL_areWheels 283 = .ok (.ifCond .ne 7, 3) := by decide +kernel
theorem dL_areWheels_286 : decode cL_areWheels 286 = .ok (.iconst 1, 1) := by decide +kernel
theorem dL_areWheels_287 : decode cL_areWheels 287 = .ok (.goto 4, 3) := by decide +kernel
theorem dL_areWheels_290 : decode cL_areWheels 290 = .ok (.iconst 0, 1) := by decide +kernel
theorem dL_areWheels_291 : decode cL_areWheels 291 = .ok (.ireturn, 1) := by decide +kernel
set_option maxRecDepth 20000 in
theorem ggL_arePoints_X3_trace : GoodIn wsL_arePoints wsX3_trace := goodIn_ca (goodIn_ca (goodIn_r _ [6, 7, 8, 9, 10, 11, 12, 5, 13, 14, 15, 16, 17, 18, 19, 20, 21, 22, 23, 24, 25, 26, 27, 28, 29, 30, 31, 32, 33, 34, 35, 36, 37, 38, 39, 40, 41, 42, 43, 44, 45, 46, 47, 48, 49, 127, 128, 129, 130, 131, 132, 133, 134, 135, 136] (by decide +kernel) (by decide +kernel)) (goodIn_sub (fun _ h => List.mem_cons_of_mem _ (List.mem_append_left _ (List.mem_append_right _ h))) (by decide +kernel))) (goodIn_sub (fun _ h => List.mem_cons_of_mem _ (List.mem_append_right _ h)) (by decide +kernel))
set_option maxRecDepth 20000 in
theorem gL_arePoints_X3_trace : GoodIn wsL_arePoints (wsV RL 41 RX3 yX3_trace wsX3_trace) := goodIn_app (goodIn_of _ (by decide +kernel)) ggL_arePoints_X3_trace
set_option maxRecDepth 20000 in
theorem ggL_arePoints_X3_pointOf : GoodIn wsL_arePoints wsX3_pointOf := goodIn_ca (goodIn_ca (goodIn_r _ [53, 7, 8, 9, 10, 11, 12, 5, 13, 14, 15, 16, 54, 55, 56, 57, 21, 58, 24, 59, 60, 61, 62, 23, 25, 26, 27, 28, 29, 30, 31, 32, 33, 34, 35, 36, 37, 38, 39, 40, 41, 42, 43, 44, 45, 63, 64, 65, 127, 128, 129, 130, 131, 132, 133, 134, 135, 136] (by decide +kernel) (by decide +kernel)) (goodIn_sub (fun _ h => List.mem_cons_of_mem _ (List.mem_append_left _ (List.mem_append_right _ h))) (by decide +kernel))) (goodIn_sub (fun _ h => List.mem_cons_of_mem _ (List.mem_append_right _ h)) (by decide +kernel))
set_option maxRecDepth 20000 in
theorem gL_arePoints_X3_pointOf : GoodIn wsL_arePoints (wsV RL 44 RX3 yX3_pointOf wsX3_pointOf) := goodIn_app (goodIn_of _ (by decide +kernel)) ggL_arePoints_X3_pointOf
set_option maxRecDepth 20000 in
theorem ggL_arePoints_L_amount : GoodIn wsL_arePoints wsL_amount := goodIn_r _ [69] (by decide +kernel) (by decide +kernel)
set_option maxRecDepth 20000 in
theorem gL_arePoints_L_amount : GoodIn wsL_arePoints (va_wsS RL 78 yL_amount wsL_amount) := goodIn_app (goodIn_of _ (by decide +kernel)) ggL_arePoints_L_amount
set_option maxRecDepth 20000 in
theorem ggL_arePoints_L_halves : GoodIn wsL_arePoints wsL_halves := goodIn_r _ [72] (by decide +kernel) (by decide +kernel)
set_option maxRecDepth 20000 in
theorem gL_arePoints_L_halves : GoodIn wsL_arePoints (va_wsS RL 53 yL_halves wsL_halves) := goodIn_app (goodIn_of _ (by decide +kernel)) ggL_arePoints_L_halves
set_option maxRecDepth 20000 in
theorem ggL_arePoints_X3_count : GoodIn wsL_arePoints wsX3_count := goodIn_ca (goodIn_r _ [76, 9, 10, 14, 15, 5, 16, 77, 78, 79, 80, 21, 81, 82, 24, 83, 84, 31, 39, 40, 41, 42, 43, 44, 45, 85, 86, 87, 88, 89, 90, 91, 92, 23, 25, 26, 27, 28, 29, 30, 32, 33, 34, 35, 36, 37, 38, 93, 94, 95, 96, 97, 98, 99, 100, 101, 102, 103, 104, 105, 106, 58, 59, 60, 61, 62, 107, 108, 109, 110, 63, 64, 65, 111, 112, 113, 114, 127, 128, 129, 130, 131, 132, 133, 134, 135, 136, 137, 138, 139] (by decide +kernel) (by decide +kernel)) (goodIn_sub (fun _ h => List.mem_cons_of_mem _ (List.mem_append_right _ h)) (by decide +kernel))
set_option maxRecDepth 20000 in
theorem gL_arePoints_X3_count : GoodIn wsL_arePoints (wsV RL 67 RX3 yX3_count wsX3_count) := goodIn_app (goodIn_of _ (by decide +kernel)) ggL_arePoints_X3_count
set_option maxRecDepth 20000 in
theorem ggL_arePoints_X3_findLost : GoodIn wsL_arePoints wsX3_findLost := goodIn_r _ [118, 21, 58, 24, 59, 60, 61, 62, 23, 25, 26, 27, 28, 29, 30, 31, 32, 33, 34, 35, 36, 37, 5, 38, 39, 40, 41, 42, 43, 44, 45, 119, 120, 121, 122, 123, 127, 128, 129, 130, 131, 132, 133, 134, 135, 136] (by decide +kernel) (by decide +kernel)
set_option maxRecDepth 20000 in
theorem gL_arePoints_X3_findLost : GoodIn wsL_arePoints (wsV RL 81 RX3 yX3_findLost wsX3_findLost) := goodIn_app (goodIn_of _ (by decide +kernel)) ggL_arePoints_X3_findLost
set_option maxRecDepth 20000 in
theorem ggL_arePoints_L_turning : GoodIn wsL_arePoints wsL_turning := goodIn_r _ [126] (by decide +kernel) (by decide +kernel)
set_option maxRecDepth 20000 in
theorem gL_arePoints_L_turning : GoodIn wsL_arePoints (va_wsS RL 70 yL_turning wsL_turning) := goodIn_app (goodIn_of _ (by decide +kernel)) ggL_arePoints_L_turning
theorem dL_arePoints_0 : decode cL_arePoints 0 = .ok (.sipush (-9999), 3) := by decide +kernel
theorem dL_arePoints_3 : decode cL_arePoints 3 = .ok (.istore 5, 2) := by decide +kernel
theorem dL_arePoints_5 : decode cL_arePoints 5 = .ok (.sipush 9999, 3) := by decide +kernel
theorem dL_arePoints_8 : decode cL_arePoints 8 = .ok (.istore 6, 2) := by decide +kernel
theorem dL_arePoints_10 : decode cL_arePoints 10 = .ok (.iconst 0, 1) := by decide +kernel
theorem dL_arePoints_11 : decode cL_arePoints 11 = .ok (.istore 7, 2) := by decide +kernel
theorem dL_arePoints_13 : decode cL_arePoints 13 = .ok (.iconst 0, 1) := by decide +kernel
theorem dL_arePoints_14 : decode cL_arePoints 14 = .ok (.istore 8, 2) := by decide +kernel
theorem dL_arePoints_16 : decode cL_arePoints 16 = .ok (.iconst 0, 1) := by decide +kernel
theorem dL_arePoints_17 : decode cL_arePoints 17 = .ok (.istore 9, 2) := by decide +kernel
theorem dL_arePoints_19 : decode cL_arePoints 19 = .ok (.iload 9, 2) := by decide +kernel
theorem dL_arePoints_21 : decode cL_arePoints 21 = .ok (.bipush 8, 2) := by decide +kernel
theorem dL_arePoints_23 : decode cL_arePoints 23 = .ok (.if_icmp .ge 217, 3) := by decide +kernel
theorem dL_arePoints_26 : decode cL_arePoints 26 = .ok (.aload 4, 2) := by decide +kernel
theorem dL_arePoints_28 : decode cL_arePoints 28 = .ok (.iload 9, 2) := by decide +kernel
theorem dL_arePoints_30 : decode cL_arePoints 30 = .ok (.bipush 7, 2) := by decide +kernel
theorem dL_arePoints_32 : decode cL_arePoints 32 = .ok (.if_icmp .ne 7, 3) := by decide +kernel
theorem dL_arePoints_35 : decode cL_arePoints 35 = .ok (.iconst 0, 1) := by decide +kernel
theorem dL_arePoints_36 : decode cL_arePoints 36 = .ok (.goto 7, 3) := by decide +kernel
theorem dL_arePoints_39 : decode cL_arePoints 39 = .ok (.iload 9, 2) := by decide +kernel
theorem dL_arePoints_41 : decode cL_arePoints 41 = .ok (.iconst 1, 1) := by decide +kernel
theorem dL_arePoints_42 : decode cL_arePoints 42 = .ok (.iadd, 1) := by decide +kernel
theorem dL_arePoints_43 : decode cL_arePoints 43 = .ok (.iaload, 1) := by decide +kernel
theorem dL_arePoints_44 : decode cL_arePoints 44 = .ok (.aload 4, 2) := by decide +kernel
theorem dL_arePoints_46 : decode cL_arePoints 46 = .ok (.iload 9, 2) := by decide +kernel
theorem dL_arePoints_48 : decode cL_arePoints 48 = .ok (.iaload, 1) := by decide +kernel
theorem dL_arePoints_49 : decode cL_arePoints 49 = .ok (.isub, 1) := by decide +kernel
theorem dL_arePoints_50 : decode cL_arePoints 50 = .ok (.istore 10, 2) := by decide +kernel
theorem dL_arePoints_52 : decode cL_arePoints 52 = .ok (.aload_n 0, 1) := by decide +kernel
theorem dL_arePoints_53 : decode cL_arePoints 53 = .ok (.iload 9, 2) := by decide +kernel
theorem dL_arePoints_55 : decode cL_arePoints 55 = .ok (.iconst 0, 1) := by decide +kernel
theorem dL_arePoints_56 : decode cL_arePoints 56 = .ok (.invokevirtual 41, 3) := by decide +kernel
theorem dL_arePoints_59 : decode cL_arePoints 59 = .ok (.aload 4, 2) := by decide +kernel
theorem dL_arePoints_61 : decode cL_arePoints 61 = .ok (.iload 9, 2) := by decide +kernel
theorem dL_arePoints_63 : decode cL_arePoints 63 = .ok (.iaload, 1) := by decide +kernel
theorem dL_arePoints_64 : decode cL_arePoints 64 = .ok (.if_icmp .ne 64, 3) := by decide +kernel
theorem dL_arePoints_67 : decode cL_arePoints 67 = .ok (.aload_n 0, 1) := by decide +kernel
theorem dL_arePoints_68 : decode cL_arePoints 68 = .ok (.iload 9, 2) := by decide +kernel
theorem dL_arePoints_70 : decode cL_arePoints 70 = .ok (.iconst 1, 1) := by decide +kernel
theorem dL_arePoints_71 : decode cL_arePoints 71 = .ok (.invokevirtual 41, 3) := by decide +kernel
theorem dL_arePoints_74 : decode cL_arePoints 74 = .ok (.aload 4, 2) := by decide +kernel
theorem dL_arePoints_76 : decode cL_arePoints 76 = .ok (.iload 9, 2) := by decide +kernel
theorem dL_arePoints_78 : decode cL_arePoints 78 = .ok (.iaload, 1) := by decide +kernel
theorem dL_arePoints_79 : decode cL_arePoints 79 = .ok (.if_icmp .ne 49, 3) := by decide +kernel
theorem dL_arePoints_82 : decode cL_arePoints 82 = .ok (.aload_n 0, 1) := by decide +kernel
theorem dL_arePoints_83 : decode cL_arePoints 83 = .ok (.iload 9, 2) := by decide +kernel
theorem dL_arePoints_85 : decode cL_arePoints 85 = .ok (.iconst 0, 1) := by decide +kernel
theorem dL_arePoints_86 : decode cL_arePoints 86 = .ok (.invokevirtual 44, 3) := by decide +kernel
theorem dL_arePoints_89 : decode cL_arePoints 89 = .ok (.aload_n 3, 1) := by decide +kernel
theorem dL_arePoints_90 : decode cL_arePoints 90 = .ok (.iload 9, 2) := by decide +kernel
theorem dL_arePoints_92 : decode cL_arePoints 92 = .ok (.iaload, 1) := by decide +kernel
theorem dL_arePoints_93 : decode cL_arePoints 93 = .ok (.if_icmp .ne 35, 3) := by decide +kernel
theorem dL_arePoints_96 : decode cL_arePoints 96 = .ok (.aload_n 0, 1) := by decide +kernel
theorem dL_arePoints_97 : decode cL_arePoints 97 = .ok (.iload 9, 2) := by decide +kernel
theorem dL_arePoints_99 : decode cL_arePoints 99 = .ok (.iconst 1, 1) := by decide +kernel
theorem dL_arePoints_100 : decode cL_arePoints 100 = .ok (.invokevirtual 44, 3) := by decide +kernel
theorem dL_arePoints_103 : decode cL_arePoints 103 = .ok (.aload_n 3, 1) := by decide +kernel
theorem dL_arePoints_104 : decode cL_arePoints 104 = .ok (.iload 9, 2) := by decide +kernel
theorem dL_arePoints_106 : decode cL_arePoints 106 = .ok (.iaload, 1) := by decide +kernel
theorem dL_arePoints_107 : decode cL_arePoints 107 = .ok (.aload 4, 2) := by decide +kernel
theorem dL_arePoints_109 : decode cL_arePoints 109 = .ok (.iload 9, 2) := by decide +kernel
theorem dL_arePoints_111 : decode cL_arePoints 111 = .ok (.iaload, 1) := by decide +kernel
theorem dL_arePoints_112 : decode cL_arePoints 112 = .ok (.isub, 1) := by decide +kernel
theorem dL_arePoints_113 : decode cL_arePoints 113 = .ok (.if_icmp .ne 15, 3) := by decide +kernel
theorem dL_arePoints_116 : decode cL_arePoints 116 = .ok (.aload_n 0, 1) := by decide +kernel
theorem dL_arePoints_117 : decode cL_arePoints 117 = .ok (.iload 9, 2) := by decide +kernel
theorem dL_arePoints_119 : decode cL_arePoints 119 = .ok (.iconst 2, 1) := by decide +kernel
theorem dL_arePoints_120 : decode cL_arePoints 120 = .ok (.invokevirtual 44, 3) := by decide +kernel
theorem dL_arePoints_123 : decode cL_arePoints 123 = .ok (.iload 10, 2) := by decide +kernel
theorem dL_arePoints_125 : decode cL_arePoints 125 = .ok (.if_icmp .eq 5, 3) := by decide +kernel
theorem dL_arePoints_128 : decode cL_arePoints 128 = .ok (.iconst 0, 1) := by decide +kernel
theorem dL_arePoints_129 : decode cL_arePoints 129 = .ok (.ireturn, 1) := by decide +kernel
theorem dL_arePoints_130 : decode cL_arePoints 130 = .ok (.aload 4, 2) := by decide +kernel
theorem dL_arePoints_132 : decode cL_arePoints 132 = .ok (.iload 9, 2) := by decide +kernel
theorem dL_arePoints_134 : decode cL_arePoints 134 = .ok (.iaload, 1) := by decide +kernel
theorem dL_arePoints_135 : decode cL_arePoints 135 = .ok (.iload 5, 2) := by decide +kernel
theorem dL_arePoints_137 : decode cL_arePoints 137 = .ok (.if_icmp .le 11, 3) := by decide +kernel
theorem dL_arePoints_140 : decode cL_arePoints 140 = .ok (.aload 4, 2) := by decide +kernel
theorem dL_arePoints_142 : decode cL_arePoints 142 = .ok (.iload 9, 2) := by decide +kernel
theorem dL_arePoints_144 : decode cL_arePoints 144 = .ok (.iaload, 1) := by decide +kernel
theorem dL_arePoints_145 : decode cL_arePoints 145 = .ok (.goto 5, 3) := by decide +kernel
theorem dL_arePoints_148 : decode cL_arePoints 148 = .ok (.iload 5, 2) := by decide +kernel
theorem dL_arePoints_150 : decode cL_arePoints 150 = .ok (.istore 5, 2) := by decide +kernel
theorem dL_arePoints_152 : decode cL_arePoints 152 = .ok (.aload 4, 2) := by decide +kernel
theorem dL_arePoints_154 : decode cL_arePoints 154 = .ok (.iload 9, 2) := by decide +kernel
theorem dL_arePoints_156 : decode cL_arePoints 156 = .ok (.iaload, 1) := by decide +kernel
theorem dL_arePoints_157 : decode cL_arePoints 157 = .ok (.iload 6, 2) := by decide +kernel
theorem dL_arePoints_159 : decode cL_arePoints 159 = .ok (.if_icmp .ge 11, 3) := by decide +kernel
theorem dL_arePoints_162 : decode cL_arePoints 162 = .ok (.aload 4, 2) := by decide +kernel
theorem dL_arePoints_164 : decode cL_arePoints 164 = .ok (.iload 9, 2) := by decide +kernel
theorem dL_arePoints_166 : decode cL_arePoints 166 = .ok (.iaload, 1) := by decide +kernel
theorem dL_arePoints_167 : decode cL_arePoints 167 = .ok (.goto 5, 3) := by decide +kernel
theorem dL_arePoints_170 : decode cL_arePoints 170 = .ok (.iload 6, 2) := by decide +kernel
theorem dL_arePoints_172 : decode cL_arePoints 172 = .ok (.istore 6, 2) := by decide +kernel
theorem dL_arePoints_174 : decode cL_arePoints 174 = .ok (.aload_n 3, 1) := by decide +kernel
theorem dL_arePoints_175 : decode cL_arePoints 175 = .ok (.iload 9, 2) := by decide +kernel
theorem dL_arePoints_177 : decode cL_arePoints 177 = .ok (.iaload, 1) := by decide +kernel
theorem dL_arePoints_178 : decode cL_arePoints 178 = .ok (.aload 4, 2) := by decide +kernel
theorem dL_arePoints_180 : decode cL_arePoints 180 = .ok (.iload 9, 2) := by decide +kernel
theorem dL_arePoints_182 : decode cL_arePoints 182 = .ok (.iaload, 1) := by decide +kernel
theorem dL_arePoints_183 : decode cL_arePoints 183 = .ok (.isub, 1) := by decide +kernel
theorem dL_arePoints_184 : decode cL_arePoints 184 = .ok (.invokestatic 78, 3) := by decide +kernel
theorem dL_arePoints_187 : decode cL_arePoints 187 = .ok (.iload 7, 2) := by decide +kernel
theorem dL_arePoints_189 : decode cL_arePoints 189 = .ok (.if_icmp .le 19, 3) := by decide +kernel
theorem dL_arePoints_192 : decode cL_arePoints 192 = .ok (.aload_n 3, 1) := by decide +kernel
theorem dL_arePoints_193 : decode cL_arePoints 193 = .ok (.iload 9, 2) := by decide +kernel
theorem dL_arePoints_195 : decode cL_arePoints 195 = .ok (.iaload, 1) := by decide +kernel
theorem dL_arePoints_196 : decode cL_arePoints 196 = .ok (.aload 4, 2) := by decide +kernel
theorem dL_arePoints_198 : decode cL_arePoints 198 = .ok (.iload 9, 2) := by decide +kernel
theorem dL_arePoints_200 : decode cL_arePoints 200 = .ok (.iaload, 1) := by decide +kernel
theorem dL_arePoints_201 : decode cL_arePoints 201 = .ok (.isub, 1) := by decide +kernel
theorem dL_arePoints_202 : decode cL_arePoints 202 = .ok (.invokestatic 78, 3) := by decide +kernel
theorem dL_arePoints_205 : decode cL_arePoints 205 = .ok (.goto 5, 3) := by decide +kernel
theorem dL_arePoints_208 : decode cL_arePoints 208 = .ok (.iload 7, 2) := by decide +kernel
theorem dL_arePoints_210 : decode cL_arePoints 210 = .ok (.istore 7, 2) := by decide +kernel
theorem dL_arePoints_212 : decode cL_arePoints 212 = .ok (.iload 10, 2) := by decide +kernel
theorem dL_arePoints_214 : decode cL_arePoints 214 = .ok (.invokestatic 78, 3) := by decide +kernel
theorem dL_arePoints_217 : decode cL_arePoints 217 = .ok (.iload 8, 2) := by decide +kernel
theorem dL_arePoints_219 : decode cL_arePoints 219 = .ok (.if_icmp .le 11, 3) := by decide +kernel
theorem dL_arePoints_222 : decode cL_arePoints 222 = .ok (.iload 10, 2) := by decide +kernel
theorem dL_arePoints_224 : decode cL_arePoints 224 = .ok (.invokestatic 78, 3) := by decide +kernel
theorem dL_arePoints_227 : decode cL_arePoints 227 = .ok (.goto 5, 3) := by decide +kernel
theorem dL_arePoints_230 : decode cL_arePoints 230 = .ok (.iload 8, 2) := by decide +kernel
theorem dL_arePoints_232 : decode cL_arePoints 232 = .ok (.istore 8, 2) := by decide +kernel
theorem dL_arePoints_234 : decode cL_arePoints 234 = .ok (.iinc 9 1, 3) := by decide +kernel
theorem dL_arePoints_237 : decode cL_arePoints 237 = .ok (.goto (-218), 3) := by decide +kernel
theorem dL_arePoints_240 : decode cL_arePoints 240 = .ok (.iload 5, 2) := by decide +kernel
theorem dL_arePoints_242 : decode cL_arePoints 242 = .ok (.invokestatic 78, 3) := by decide +kernel
theorem dL_arePoints_245 : decode cL_arePoints 245 = .ok (.iload 6, 2) := by decide +kernel
theorem dL_arePoints_247 : decode cL_arePoints 247 = .ok (.invokestatic 78, 3) := by decide +kernel
theorem dL_arePoints_250 : decode cL_arePoints 250 = .ok (.if_icmp .le 11, 3) := by decide +kernel
theorem dL_arePoints_253 : decode cL_arePoints 253 = .ok (.iload 5, 2) := by decide +kernel
theorem dL_arePoints_255 : decode cL_arePoints 255 = .ok (.invokestatic 78, 3) := by decide +kernel
theorem dL_arePoints_258 : decode cL_arePoints 258 = .ok (.goto 8, 3) := by decide +kernel
theorem dL_arePoints_261 : decode cL_arePoints 261 = .ok (.iload 6, 2) := by decide +kernel
theorem dL_arePoints_263 : decode cL_arePoints 263 = .ok (.invokestatic 78, 3) := by decide +kernel
theorem dL_arePoints_266 : decode cL_arePoints 266 = .ok (.istore 9, 2) := by decide +kernel
theorem dL_arePoints_268 : decode cL_arePoints 268 = .ok (.bipush 8, 2) := by decide +kernel
theorem dL_arePoints_270 : decode cL_arePoints 270 = .ok (.newarray .int, 2) := by decide +kernel
theorem dL_arePoints_272 : decode cL_arePoints 272 = .ok (.astore 10, 2) := by decide +kernel
theorem dL_arePoints_274 : decode cL_arePoints 274 = .ok (.iconst 0, 1) := by decide +kernel
theorem dL_arePoints_275 : decode cL_arePoints 275 = .ok (.istore 11, 2) := by decide +kernel
theorem dL_arePoints_277 : decode cL_arePoints 277 = .ok (.iload 11, 2) := by decide +kernel
theorem dL_arePoints_279 : decode cL_arePoints 279 = .ok (.bipush 8, 2) := by decide +kernel
theorem dL_arePoints_281 : decode cL_arePoints 281 = .ok (.if_icmp .ge 24, 3) := by decide +kernel
theorem dL_arePoints_284 : decode cL_arePoints 284 = .ok (.aload 10, 2) := by decide +kernel
theorem dL_arePoints_286 : decode cL_arePoints 286 = .ok (.iload 11, 2) := by decide +kernel
theorem dL_arePoints_288 : decode cL_arePoints 288 = .ok (.aload_n 3, 1) := by decide +kernel
theorem dL_arePoints_289 : decode cL_arePoints 289 = .ok (.iload 11, 2) := by decide +kernel
theorem dL_arePoints_291 : decode cL_arePoints 291 = .ok (.iaload, 1) := by decide +kernel
theorem dL_arePoints_292 : decode cL_arePoints 292 = .ok (.aload 4, 2) := by decide +kernel
theorem dL_arePoints_294 : decode cL_arePoints 294 = .ok (.iload 11, 2) := by decide +kernel
theorem dL_arePoints_296 : decode cL_arePoints 296 = .ok (.iaload, 1) := by decide +kernel
theorem dL_arePoints_297 : decode cL_arePoints 297 = .ok (.isub, 1) := by decide +kernel
theorem dL_arePoints_298 : decode cL_arePoints 298 = .ok (.iastore, 1) := by decide +kernel
theorem dL_arePoints_299 : decode cL_arePoints 299 = .ok (.iinc 11 1, 3) := by decide +kernel
theorem dL_arePoints_302 : decode cL_arePoints 302 = .ok (.goto (-25), 3) := by decide +kernel
theorem dL_arePoints_305 : decode cL_arePoints 305 = .ok (.aload 10, 2) := by decide +kernel
theorem dL_arePoints_307 : decode cL_arePoints 307 = .ok (.invokestatic 53, 3) := by decide +kernel
theorem dL_arePoints_310 : decode cL_arePoints 310 = .ok (.iconst (-1), 1) := by decide +kernel
theorem dL_arePoints_311 : decode cL_arePoints 311 = .ok (.istore 11, 2) := by decide +kernel
theorem dL_arePoints_313 : decode cL_arePoints 313 = .ok (.iconst 0, 1) := by decide +kernel
theorem dL_arePoints_314 : decode cL_arePoints 314 = .ok (.istore 12, 2) := by decide +kernel
theorem dL_arePoints_316 : decode cL_arePoints 316 = .ok (.iload 12, 2) := by decide +kernel
theorem dL_arePoints_318 : decode cL_arePoints 318 = .ok (.bipush 8, 2) := by decide +kernel
theorem dL_arePoints_320 : decode cL_arePoints 320 = .ok (.if_icmp .ge 26, 3) := by decide +kernel
theorem dL_arePoints_323 : decode cL_arePoints 323 = .ok (.aload 10, 2) := by decide +kernel
theorem dL_arePoints_325 : decode cL_arePoints 325 = .ok (.iload 12, 2) := by decide +kernel
theorem dL_arePoints_327 : decode cL_arePoints 327 = .ok (.iaload, 1) := by decide +kernel
theorem dL_arePoints_328 : decode cL_arePoints 328 = .ok (.ifCond .eq 8, 3) := by decide +kernel
theorem dL_arePoints_331 : decode cL_arePoints 331 = .ok (.iload 12, 2) := by decide +kernel
theorem dL_arePoints_333 : decode cL_arePoints 333 = .ok (.goto 5, 3) := by decide +kernel
theorem dL_arePoints_336 : decode cL_arePoints 336 = .ok (.iload 11, 2) := by decide +kernel
theorem dL_arePoints_338 : decode cL_arePoints 338 = .ok (.istore 11, 2) := by decide +kernel
theorem dL_arePoints_340 : decode cL_arePoints 340 = .ok (.iinc 12 1, 3) := by decide +kernel
theorem dL_arePoints_343 : decode cL_arePoints 343 = .ok (.goto (-27), 3) := by decide +kernel
theorem dL_arePoints_346 : decode cL_arePoints 346 = .ok (.aload_n 0, 1) := by decide +kernel
theorem dL_arePoints_347 : decode cL_arePoints 347 = .ok (.iconst 2, 1) := by decide +kernel
theorem dL_arePoints_348 : decode cL_arePoints 348 = .ok (.invokevirtual 67, 3) := by decide +kernel
theorem dL_arePoints_351 : decode cL_arePoints 351 = .ok (.iload 5, 2) := by decide +kernel
theorem dL_arePoints_353 : decode cL_arePoints 353 = .ok (.if_icmp .ne 88, 3) := by decide +kernel
theorem dL_arePoints_356 : decode cL_arePoints 356 = .ok (.aload_n 0, 1) := by decide +kernel
theorem dL_arePoints_357 : decode cL_arePoints 357 = .ok (.iconst 3, 1) := by decide +kernel
theorem dL_arePoints_358 : decode cL_arePoints 358 = .ok (.invokevirtual 67, 3) := by decide +kernel
theorem dL_arePoints_361 : decode cL_arePoints 361 = .ok (.iload 6, 2) := by decide +kernel
theorem dL_arePoints_363 : decode cL_arePoints 363 = .ok (.if_icmp .ne 78, 3) := by decide +kernel
theorem dL_arePoints_366 : decode cL_arePoints 366 = .ok (.aload_n 0, 1) := by decide +kernel
theorem dL_arePoints_367 : decode cL_arePoints 367 = .ok (.iconst 4, 1) := by decide +kernel
theorem dL_arePoints_368 : decode cL_arePoints 368 = .ok (.invokevirtual 67, 3) := by decide +kernel
theorem dL_arePoints_371 : decode cL_arePoints 371 = .ok (.iload 7, 2) := by decide +kernel
theorem dL_arePoints_373 : decode cL_arePoints 373 = .ok (.if_icmp .ne 68, 3) := by decide +kernel
theorem dL_arePoints_376 : decode cL_arePoints 376 = .ok (.aload_n 0, 1) := by decide +kernel
theorem dL_arePoints_377 : decode cL_arePoints 377 = .ok (.iconst 5, 1) := by decide +kernel
theorem dL_arePoints_378 : decode cL_arePoints 378 = .ok (.invokevirtual 67, 3) := by decide +kernel
theorem dL_arePoints_381 : decode cL_arePoints 381 = .ok (.iload 8, 2) := by decide +kernel
theorem dL_arePoints_383 : decode cL_arePoints 383 = .ok (.if_icmp .ne 58, 3) := by decide +kernel
theorem dL_arePoints_386 : decode cL_arePoints 386 = .ok (.aload_n 0, 1) := by decide +kernel
theorem dL_arePoints_387 : decode cL_arePoints 387 = .ok (.bipush 6, 2) := by decide +kernel
theorem dL_arePoints_389 : decode cL_arePoints 389 = .ok (.invokevirtual 67, 3) := by decide +kernel
theorem dL_arePoints_392 : decode cL_arePoints 392 = .ok (.iload 9, 2) := by decide +kernel
theorem dL_arePoints_394 : decode cL_arePoints 394 = .ok (.aload_n 2, 1) := by decide +kernel
theorem dL_arePoints_395 : decode cL_arePoints 395 = .ok (.iconst 0, 1) := by decide +kernel
theorem dL_arePoints_396 : decode cL_arePoints 396 = .ok (.iaload, 1) := by decide +kernel
theorem dL_arePoints_397 : decode cL_arePoints 397 = .ok (.iconst 1, 1) := by decide +kernel
theorem dL_arePoints_398 : decode cL_arePoints 398 = .ok (.if_icmp .ne 7, 3) := by decide +kernel
theorem dL_arePoints_401 : decode cL_arePoints 401 = .ok (.iconst 0, 1) := by decide +kernel
theorem dL_arePoints_402 : decode cL_arePoints 402 = .ok (.goto 9, 3) := by decide +kernel
theorem dL_arePoints_405 : decode cL_arePoints 405 = .ok (.aload_n 1, 1) := by decide +kernel
theorem dL_arePoints_406 : decode cL_arePoints 406 = .ok (.iconst 0, 1) := by decide +kernel
theorem dL_arePoints_407 : decode cL_arePoints 407 = .ok (.iaload, 1) := by decide +kernel
theorem dL_arePoints_408 : decode cL_arePoints 408 = .ok (.invokestatic 78, 3) := by decide +kernel
theorem dL_arePoints_411 : decode cL_arePoints 411 = .ok (.isub, 1) := by decide +kernel
theorem dL_arePoints_412 : decode cL_arePoints 412 = .ok (.if_icmp .ne 29, 3) := by decide +kernel
theorem dL_arePoints_415 : decode cL_arePoints 415 = .ok (.aload_n 0, 1) := by decide +kernel
theorem dL_arePoints_416 : decode cL_arePoints 416 = .ok (.invokevirtual 81, 3) := by decide +kernel
theorem dL_arePoints_419 : decode cL_arePoints 419 = .ok (.aload 10, 2) := by decide +kernel
theorem dL_arePoints_421 : decode cL_arePoints 421 = .ok (.invokestatic 70, 3) := by decide +kernel
theorem dL_arePoints_424 : decode cL_arePoints 424 = .ok (.iconst 1, 1) := by decide +kernel
theorem dL_arePoints_425 : decode cL_arePoints 425 = .ok (.if_icmp .ne 8, 3) := by decide +kernel
theorem dL_arePoints_428 : decode cL_arePoints 428 = .ok (.iload 11, 2) := by decide +kernel
theorem dL_arePoints_430 : decode cL_arePoints 430 = .ok (.goto 4, 3) := by decide +kernel
theorem dL_arePoints_433 : decode cL_arePoints 433 = .ok (.iconst (-1), 1) := by decide +kernel
theorem dL_arePoints_434 : decode cL_arePoints 434 = .ok (.if_icmp .ne 7, 3) := by decide +kernel
theorem dL_arePoints_437 : decode cL_arePoints 437 = .ok (.iconst 1, 1) := by decide +kernel
theorem dL_arePoints_438 : decode cL_arePoints 438 = .ok (.goto 4, 3) := by decide +kernel
theorem dL_arePoints_441 : decode cL_arePoints 441 = .ok (.iconst 0, 1) := by decide +kernel
theorem dL_arePoints_442 : decode cL_arePoints 442 = .ok (.ireturn, 1) := by decide +kernel
set_option maxRecDepth 20000 in
theorem ggL_isAhead_X3_ifTurned : GoodIn wsL_isAhead wsX3_ifTurned := goodIn_ca (goodIn_ca (goodIn_r _ [7, 8, 9, 10, 11, 12, 13, 14, 6, 15, 16, 17, 18, 19, 20, 21, 22, 23, 24, 25, 26, 27, 28, 29, 30, 31, 32, 33, 34, 35, 36, 37, 38, 39, 40, 41, 91, 92, 93, 94, 95, 96, 97, 98, 99, 100] (by decide +kernel) (by decide +kernel)) (goodIn_sub (fun _ h => List.mem_cons_of_mem _ (List.mem_append_left _ (List.mem_append_right _ h))) (by decide +kernel))) (goodIn_sub (fun _ h => List.mem_cons_of_mem _ (List.mem_append_right _ h)) (by decide +kernel))
set_option maxRecDepth 20000 in
theorem gL_isAhead_X3_ifTurned : GoodIn wsL_isAhead (wsV RL 50 RX3 yX3_ifTurned wsX3_ifTurned) := goodIn_app (goodIn_of _ (by decide +kernel)) ggL_isAhead_X3_ifTurned
set_option maxRecDepth 20000 in
theorem ggL_isAhead_L_amount : GoodIn wsL_isAhead wsL_amount := goodIn_r _ [45] (by decide +kernel) (by decide +kernel)
set_option maxRecDepth 20000 in
theorem gL_isAhead_L_amount : GoodIn wsL_isAhead (va_wsS RL 78 yL_amount wsL_amount) := goodIn_app (goodIn_of _ (by decide +kernel)) ggL_isAhead_L_amount
set_option maxRecDepth 20000 in
theorem ggL_isAhead_X3_enough : GoodIn wsL_isAhead wsX3_enough := goodIn_ca (goodIn_r _ [49, 10, 11, 50, 16, 17, 6, 18, 51, 52, 53, 54, 55, 12, 56, 20, 57, 58, 23, 24, 25, 26, 27, 28, 29, 30, 31, 32, 59, 60, 61, 62, 63, 64, 65, 66, 67, 68, 69, 70, 91, 92, 93, 94, 95, 96, 97, 98, 99, 100] (by decide +kernel) (by decide +kernel)) (goodIn_sub (fun _ h => List.mem_cons_of_mem _ (List.mem_append_right _ h)) (by decide +kernel))
set_option maxRecDepth 20000 in
theorem gL_isAhead_X3_enough : GoodIn wsL_isAhead (wsV RL 47 RX3 yX3_enough wsX3_enough) := goodIn_app (goodIn_of _ (by decide +kernel)) ggL_isAhead_X3_enough
set_option maxRecDepth 20000 in
theorem ggL_isAhead_X3_bestTurn : GoodIn wsL_isAhead wsX3_bestTurn := goodIn_r _ [74, 75, 76, 77, 6, 78, 12, 79, 80, 81, 82, 19, 20, 21, 22, 23, 24, 25, 26, 27, 28, 29, 30, 31, 32, 33, 34, 35, 36, 37, 38, 39, 40, 41, 91, 92, 93, 94, 95, 96, 97, 98, 99, 100] (by decide +kernel) (by decide +kernel)
set_option maxRecDepth 20000 in
theorem gL_isAhead_X3_bestTurn : GoodIn wsL_isAhead (wsV RL 85 RX3 yX3_bestTurn wsX3_bestTurn) := goodIn_app (goodIn_of _ (by decide +kernel)) ggL_isAhead_X3_bestTurn
set_option maxRecDepth 20000 in
theorem ggL_isAhead_L_enough : GoodIn wsL_isAhead wsL_enough := goodIn_ca (goodIn_r _ [85, 86, 46, 47, 48, 6, 49, 10, 11, 50, 16, 17, 18, 51, 52, 53, 54, 55, 12, 56, 20, 57, 58, 23, 24, 25, 26, 27, 28, 29, 30, 31, 32, 59, 60, 61, 62, 63, 64, 65, 66, 67, 68, 69, 70, 91, 92, 93, 94, 95, 96, 97, 98, 99, 100] (by decide +kernel) (by decide +kernel)) (goodIn_sub (fun _ h => List.mem_cons_of_mem _ (List.mem_append_right _ h)) (by decide +kernel))
set_option maxRecDepth 20000 in
theorem gL_isAhead_L_enough : GoodIn wsL_isAhead (va_wsS RL 88 yL_enough wsL_enough) := goodIn_app (goodIn_of _ (by decide +kernel)) ggL_isAhead_L_enough
set_option maxRecDepth 20000 in
theorem ggL_isAhead_L_ifTurned : GoodIn wsL_isAhead wsL_ifTurned := goodIn_ca (goodIn_ca (goodIn_r _ [89, 90, 86, 3, 4, 5, 6, 7, 8, 9, 10, 11, 12, 13, 14, 15, 16, 17, 18, 19, 20, 21, 22, 23, 24, 25, 26, 27, 28, 29, 30, 31, 32, 33, 34, 35, 36, 37, 38, 39, 40, 41, 91, 92, 93, 94, 95, 96, 97, 98, 99, 100] (by decide +kernel) (by decide +kernel)) (goodIn_sub (fun _ h => List.mem_cons_of_mem _ (List.mem_append_left _ (List.mem_append_right _ h))) (by decide +kernel))) (goodIn_sub (fun _ h => List.mem_cons_of_mem _ (List.mem_append_right _ h)) (by decide +kernel))
set_option maxRecDepth 20000 in
theorem gL_isAhead_L_ifTurned : GoodIn wsL_isAhead (va_wsS RL 92 yL_ifTurned wsL_ifTurned) := goodIn_app (goodIn_of _ (by decide +kernel)) ggL_isAhead_L_ifTurned
theorem dL_isAhead_0 : decode cL_isAhead 0 = .ok (.bipush 8, 2) := by decide +kernel
theorem dL_isAhead_2 : decode cL_isAhead 2 = .ok (.istore 6, 2) := by decide +kernel
theorem dL_isAhead_4 : decode cL_isAhead 4 = .ok (.iconst 0, 1) := by decide +kernel
theorem dL_isAhead_5 : decode cL_isAhead 5 = .ok (.istore 7, 2) := by decide +kernel
theorem dL_isAhead_7 : decode cL_isAhead 7 = .ok (.iload 7, 2) := by decide +kernel
theorem dL_isAhead_9 : decode cL_isAhead 9 = .ok (.sipush 256, 3) := by decide +kernel
theorem dL_isAhead_12 : decode cL_isAhead 12 = .ok (.if_icmp .ge 124, 3) := by decide +kernel
theorem dL_isAhead_15 : decode cL_isAhead 15 = .ok (.iconst 0, 1) := by decide +kernel
theorem dL_isAhead_16 : decode cL_isAhead 16 = .ok (.istore 8, 2) := by decide +kernel
theorem dL_isAhead_18 : decode cL_isAhead 18 = .ok (.iconst 0, 1) := by decide +kernel
theorem dL_isAhead_19 : decode cL_isAhead 19 = .ok (.istore 9, 2) := by decide +kernel
theorem dL_isAhead_21 : decode cL_isAhead 21 = .ok (.iconst 0, 1) := by decide +kernel
theorem dL_isAhead_22 : decode cL_isAhead 22 = .ok (.istore 10, 2) := by decide +kernel
theorem dL_isAhead_24 : decode cL_isAhead 24 = .ok (.iload 10, 2) := by decide +kernel
theorem dL_isAhead_26 : decode cL_isAhead 26 = .ok (.bipush 8, 2) := by decide +kernel
theorem dL_isAhead_28 : decode cL_isAhead 28 = .ok (.if_icmp .ge 80, 3) := by decide +kernel
theorem dL_isAhead_31 : decode cL_isAhead 31 = .ok (.aload_n 3, 1) := by decide +kernel
theorem dL_isAhead_32 : decode cL_isAhead 32 = .ok (.iload 10, 2) := by decide +kernel
theorem dL_isAhead_34 : decode cL_isAhead 34 = .ok (.iaload, 1) := by decide +kernel
theorem dL_isAhead_35 : decode cL_isAhead 35 = .ok (.iconst 1, 1) := by decide +kernel
theorem dL_isAhead_36 : decode cL_isAhead 36 = .ok (.if_icmp .ne 7, 3) := by decide +kernel
theorem dL_isAhead_39 : decode cL_isAhead 39 = .ok (.iconst 0, 1) := by decide +kernel
theorem dL_isAhead_40 : decode cL_isAhead 40 = .ok (.goto 7, 3) := by decide +kernel
theorem dL_isAhead_43 : decode cL_isAhead 43 = .ok (.aload_n 2, 1) := by decide +kernel
theorem dL_isAhead_44 : decode cL_isAhead 44 = .ok (.iload 10, 2) := by decide +kernel
theorem dL_isAhead_46 : decode cL_isAhead 46 = .ok (.iaload, 1) := by decide +kernel
theorem dL_isAhead_47 : decode cL_isAhead 47 = .ok (.istore 11, 2) := by decide +kernel
theorem dL_isAhead_49 : decode cL_isAhead 49 = .ok (.iload 8, 2) := by decide +kernel
theorem dL_isAhead_51 : decode cL_isAhead 51 = .ok (.iload 7, 2) := by decide +kernel
theorem dL_isAhead_53 : decode cL_isAhead 53 = .ok (.iload 10, 2) := by decide +kernel
theorem dL_isAhead_55 : decode cL_isAhead 55 = .ok (.ishr, 1) := by decide +kernel
theorem dL_isAhead_56 : decode cL_isAhead 56 = .ok (.iconst 1, 1) := by decide +kernel
theorem dL_isAhead_57 : decode cL_isAhead 57 = .ok (.iand, 1) := by decide +kernel
theorem dL_isAhead_58 : decode cL_isAhead 58 = .ok (.ifCond .ne 14, 3) := by decide +kernel
theorem dL_isAhead_61 : decode cL_isAhead 61 = .ok (.bipush 8, 2) := by decide +kernel
theorem dL_isAhead_63 : decode cL_isAhead 63 = .ok (.iload 11, 2) := by decide +kernel
theorem dL_isAhead_65 : decode cL_isAhead 65 = .ok (.imul, 1) := by decide +kernel
theorem dL_isAhead_66 : decode cL_isAhead 66 = .ok (.iload 11, 2) := by decide +kernel
theorem dL_isAhead_68 : decode cL_isAhead 68 = .ok (.imul, 1) := by decide +kernel
theorem dL_isAhead_69 : decode cL_isAhead 69 = .ok (.goto 4, 3) := by decide +kernel
theorem dL_isAhead_72 : decode cL_isAhead 72 = .ok (.iconst 0, 1) := by decide +kernel
theorem dL_isAhead_73 : decode cL_isAhead 73 = .ok (.iadd, 1) := by decide +kernel
theorem dL_isAhead_74 : decode cL_isAhead 74 = .ok (.istore 8, 2) := by decide +kernel
theorem dL_isAhead_76 : decode cL_isAhead 76 = .ok (.iload 9, 2) := by decide +kernel
theorem dL_isAhead_78 : decode cL_isAhead 78 = .ok (.iload 7, 2) := by decide +kernel
theorem dL_isAhead_80 : decode cL_isAhead 80 = .ok (.iload 10, 2) := by decide +kernel
theorem dL_isAhead_82 : decode cL_isAhead 82 = .ok (.ishr, 1) := by decide +kernel
theorem dL_isAhead_83 : decode cL_isAhead 83 = .ok (.iconst 1, 1) := by decide +kernel
theorem dL_isAhead_84 : decode cL_isAhead 84 = .ok (.iand, 1) := by decide +kernel
theorem dL_isAhead_85 : decode cL_isAhead 85 = .ok (.iconst 1, 1) := by decide +kernel
theorem dL_isAhead_86 : decode cL_isAhead 86 = .ok (.if_icmp .ne 12, 3) := by decide +kernel
theorem dL_isAhead_89 : decode cL_isAhead 89 = .ok (.iload 11, 2) := by decide +kernel
theorem dL_isAhead_91 : decode cL_isAhead 91 = .ok (.ifCond .eq 7, 3) := by decide +kernel
theorem dL_isAhead_94 : decode cL_isAhead 94 = .ok (.iconst 1, 1) := by decide +kernel
theorem dL_isAhead_95 : decode cL_isAhead 95 = .ok (.goto 4, 3) := by decide +kernel
theorem dL_isAhead_98 : decode cL_isAhead 98 = .ok (.iconst 0, 1) := by decide +kernel
theorem dL_isAhead_99 : decode cL_isAhead 99 = .ok (.iadd, 1) := by decide +kernel
theorem dL_isAhead_100 : decode cL_isAhead 100 = .ok (.istore 9, 2) := by decide +kernel
theorem dL_isAhead_102 : decode cL_isAhead 102 = .ok (.iinc 10 1, 3) := by decide +kernel
theorem dL_isAhead_105 : decode cL_isAhead 105 = .ok (.goto (-81), 3) := by decide +kernel
theorem dL_isAhead_108 : decode cL_isAhead 108 = .ok (.iload 8, 2) := by decide +kernel
theorem dL_isAhead_110 : decode cL_isAhead 110 = .ok (.iload_n 1, 1) := by decide +kernel
theorem dL_isAhead_111 : decode cL_isAhead 111 = .ok (.if_icmp .gt 15, 3) := by decide +kernel
theorem dL_isAhead_114 : decode cL_isAhead 114 = .ok (.iload 9, 2) := by decide +kernel
theorem dL_isAhead_116 : decode cL_isAhead 116 = .ok (.iload 6, 2) := by decide +kernel
theorem dL_isAhead_118 : decode cL_isAhead 118 = .ok (.if_icmp .ge 8, 3) := by decide +kernel
theorem dL_isAhead_121 : decode cL_isAhead 121 = .ok (.iload 9, 2) := by decide +kernel
theorem dL_isAhead_123 : decode cL_isAhead 123 = .ok (.goto 5, 3) := by decide +kernel
theorem dL_isAhead_126 : decode cL_isAhead 126 = .ok (.iload 6, 2) := by decide +kernel
theorem dL_isAhead_128 : decode cL_isAhead 128 = .ok (.istore 6, 2) := by decide +kernel
theorem dL_isAhead_130 : decode cL_isAhead 130 = .ok (.iinc 7 1, 3) := by decide +kernel
theorem dL_isAhead_133 : decode cL_isAhead 133 = .ok (.goto (-126), 3) := by decide +kernel
theorem dL_isAhead_136 : decode cL_isAhead 136 = .ok (.iconst 0, 1) := by decide +kernel
theorem dL_isAhead_137 : decode cL_isAhead 137 = .ok (.istore 7, 2) := by decide +kernel
theorem dL_isAhead_139 : decode cL_isAhead 139 = .ok (.ldc 84, 2) := by decide +kernel
theorem dL_isAhead_141 : decode cL_isAhead 141 = .ok (.istore 8, 2) := by decide +kernel
theorem dL_isAhead_143 : decode cL_isAhead 143 = .ok (.iconst 0, 1) := by decide +kernel
theorem dL_isAhead_144 : decode cL_isAhead 144 = .ok (.istore 9, 2) := by decide +kernel
theorem dL_isAhead_146 : decode cL_isAhead 146 = .ok (.iload 9, 2) := by decide +kernel
theorem dL_isAhead_148 : decode cL_isAhead 148 = .ok (.bipush 8, 2) := by decide +kernel
theorem dL_isAhead_150 : decode cL_isAhead 150 = .ok (.if_icmp .ge 103, 3) := by decide +kernel
theorem dL_isAhead_153 : decode cL_isAhead 153 = .ok (.iconst 0, 1) := by decide +kernel
theorem dL_isAhead_154 : decode cL_isAhead 154 = .ok (.istore 10, 2) := by decide +kernel
theorem dL_isAhead_156 : decode cL_isAhead 156 = .ok (.iconst 0, 1) := by decide +kernel
theorem dL_isAhead_157 : decode cL_isAhead 157 = .ok (.istore 11, 2) := by decide +kernel
theorem dL_isAhead_159 : decode cL_isAhead 159 = .ok (.iload 11, 2) := by decide +kernel
theorem dL_isAhead_161 : decode cL_isAhead 161 = .ok (.bipush 8, 2) := by decide +kernel
theorem dL_isAhead_163 : decode cL_isAhead 163 = .ok (.if_icmp .ge 52, 3) := by decide +kernel
theorem dL_isAhead_166 : decode cL_isAhead 166 = .ok (.aload_n 0, 1) := by decide +kernel
theorem dL_isAhead_167 : decode cL_isAhead 167 = .ok (.iload 9, 2) := by decide +kernel
theorem dL_isAhead_169 : decode cL_isAhead 169 = .ok (.iload 11, 2) := by decide +kernel
theorem dL_isAhead_171 : decode cL_isAhead 171 = .ok (.invokevirtual 50, 3) := by decide +kernel
theorem dL_isAhead_174 : decode cL_isAhead 174 = .ok (.aload 5, 2) := by decide +kernel
theorem dL_isAhead_176 : decode cL_isAhead 176 = .ok (.iload 11, 2) := by decide +kernel
theorem dL_isAhead_178 : decode cL_isAhead 178 = .ok (.iload 9, 2) := by decide +kernel
theorem dL_isAhead_180 : decode cL_isAhead 180 = .ok (.ixor, 1) := by decide +kernel
theorem dL_isAhead_181 : decode cL_isAhead 181 = .ok (.iaload, 1) := by decide +kernel
theorem dL_isAhead_182 : decode cL_isAhead 182 = .ok (.if_icmp .eq 5, 3) := by decide +kernel
theorem dL_isAhead_185 : decode cL_isAhead 185 = .ok (.iconst 0, 1) := by decide +kernel
theorem dL_isAhead_186 : decode cL_isAhead 186 = .ok (.ireturn, 1) := by decide +kernel
theorem dL_isAhead_187 : decode cL_isAhead 187 = .ok (.iload 10, 2) := by decide +kernel
theorem dL_isAhead_189 : decode cL_isAhead 189 = .ok (.aload 4, 2) := by decide +kernel
theorem dL_isAhead_191 : decode cL_isAhead 191 = .ok (.iload 11, 2) := by decide +kernel
theorem dL_isAhead_193 : decode cL_isAhead 193 = .ok (.iaload, 1) := by decide +kernel
theorem dL_isAhead_194 : decode cL_isAhead 194 = .ok (.aload 5, 2) := by decide +kernel
theorem dL_isAhead_196 : decode cL_isAhead 196 = .ok (.iload 11, 2) := by decide +kernel
theorem dL_isAhead_198 : decode cL_isAhead 198 = .ok (.iload 9, 2) := by decide +kernel
theorem dL_isAhead_200 : decode cL_isAhead 200 = .ok (.ixor, 1) := by decide +kernel
theorem dL_isAhead_201 : decode cL_isAhead 201 = .ok (.iaload, 1) := by decide +kernel
theorem dL_isAhead_202 : decode cL_isAhead 202 = .ok (.isub, 1) := by decide +kernel
theorem dL_isAhead_203 : decode cL_isAhead 203 = .ok (.invokestatic 78, 3) := by decide +kernel
theorem dL_isAhead_206 : decode cL_isAhead 206 = .ok (.iadd, 1) := by decide +kernel
theorem dL_isAhead_207 : decode cL_isAhead 207 = .ok (.istore 10, 2) := by decide +kernel
theorem dL_isAhead_209 : decode cL_isAhead 209 = .ok (.iinc 11 1, 3) := by decide +kernel
theorem dL_isAhead_212 : decode cL_isAhead 212 = .ok (.goto (-53), 3) := by decide +kernel
theorem dL_isAhead_215 : decode cL_isAhead 215 = .ok (.iload 10, 2) := by decide +kernel
theorem dL_isAhead_217 : decode cL_isAhead 217 = .ok (.iload 8, 2) := by decide +kernel
theorem dL_isAhead_219 : decode cL_isAhead 219 = .ok (.if_icmp .ge 8, 3) := by decide +kernel
theorem dL_isAhead_222 : decode cL_isAhead 222 = .ok (.iload 9, 2) := by decide +kernel
theorem dL_isAhead_224 : decode cL_isAhead 224 = .ok (.goto 5, 3) := by decide +kernel
theorem dL_isAhead_227 : decode cL_isAhead 227 = .ok (.iload 7, 2) := by decide +kernel
theorem dL_isAhead_229 : decode cL_isAhead 229 = .ok (.istore 7, 2) := by decide +kernel
theorem dL_isAhead_231 : decode cL_isAhead 231 = .ok (.iload 10, 2) := by decide +kernel
theorem dL_isAhead_233 : decode cL_isAhead 233 = .ok (.iload 8, 2) := by decide +kernel
theorem dL_isAhead_235 : decode cL_isAhead 235 = .ok (.if_icmp .ge 8, 3) := by decide +kernel
theorem dL_isAhead_238 : decode cL_isAhead 238 = .ok (.iload 10, 2) := by decide +kernel
theorem dL_isAhead_240 : decode cL_isAhead 240 = .ok (.goto 5, 3) := by decide +kernel
theorem dL_isAhead_243 : decode cL_isAhead 243 = .ok (.iload 8, 2) := by decide +kernel
theorem dL_isAhead_245 : decode cL_isAhead 245 = .ok (.istore 8, 2) := by decide +kernel
theorem dL_isAhead_247 : decode cL_isAhead 247 = .ok (.iinc 9 1, 3) := by decide +kernel
theorem dL_isAhead_250 : decode cL_isAhead 250 = .ok (.goto (-104), 3) := by decide +kernel
theorem dL_isAhead_253 : decode cL_isAhead 253 = .ok (.aload_n 0, 1) := by decide +kernel
theorem dL_isAhead_254 : decode cL_isAhead 254 = .ok (.iload_n 1, 1) := by decide +kernel
theorem dL_isAhead_255 : decode cL_isAhead 255 = .ok (.iconst 0, 1) := by decide +kernel
theorem dL_isAhead_256 : decode cL_isAhead 256 = .ok (.invokevirtual 47, 3) := by decide +kernel
theorem dL_isAhead_259 : decode cL_isAhead 259 = .ok (.iload 6, 2) := by decide +kernel
theorem dL_isAhead_261 : decode cL_isAhead 261 = .ok (.if_icmp .ne 86, 3) := by decide +kernel
theorem dL_isAhead_264 : decode cL_isAhead 264 = .ok (.aload_n 0, 1) := by decide +kernel
theorem dL_isAhead_265 : decode cL_isAhead 265 = .ok (.iload_n 1, 1) := by decide +kernel
theorem dL_isAhead_266 : decode cL_isAhead 266 = .ok (.iconst 1, 1) := by decide +kernel
theorem dL_isAhead_267 : decode cL_isAhead 267 = .ok (.invokevirtual 47, 3) := by decide +kernel
theorem dL_isAhead_270 : decode cL_isAhead 270 = .ok (.iload 6, 2) := by decide +kernel
theorem dL_isAhead_272 : decode cL_isAhead 272 = .ok (.if_icmp .ne 75, 3) := by decide +kernel
theorem dL_isAhead_275 : decode cL_isAhead 275 = .ok (.aload_n 0, 1) := by decide +kernel
theorem dL_isAhead_276 : decode cL_isAhead 276 = .ok (.invokevirtual 85, 3) := by decide +kernel
theorem dL_isAhead_279 : decode cL_isAhead 279 = .ok (.iload 7, 2) := by decide +kernel
theorem dL_isAhead_281 : decode cL_isAhead 281 = .ok (.if_icmp .ne 66, 3) := by decide +kernel
theorem dL_isAhead_284 : decode cL_isAhead 284 = .ok (.aload_n 0, 1) := by decide +kernel
theorem dL_isAhead_285 : decode cL_isAhead 285 = .ok (.iconst (-1), 1) := by decide +kernel
theorem dL_isAhead_286 : decode cL_isAhead 286 = .ok (.iconst 0, 1) := by decide +kernel
theorem dL_isAhead_287 : decode cL_isAhead 287 = .ok (.invokestatic 88, 3) := by decide +kernel
theorem dL_isAhead_290 : decode cL_isAhead 290 = .ok (.bipush (-32), 2) := by decide +kernel
theorem dL_isAhead_292 : decode cL_isAhead 292 = .ok (.if_icmp .ne 55, 3) := by decide +kernel
theorem dL_isAhead_295 : decode cL_isAhead 295 = .ok (.aload_n 0, 1) := by decide +kernel
theorem dL_isAhead_296 : decode cL_isAhead 296 = .ok (.ldc 91, 2) := by decide +kernel
theorem dL_isAhead_298 : decode cL_isAhead 298 = .ok (.iconst 0, 1) := by decide +kernel
theorem dL_isAhead_299 : decode cL_isAhead 299 = .ok (.invokestatic 88, 3) := by decide +kernel
theorem dL_isAhead_302 : decode cL_isAhead 302 = .ok (.bipush (-32), 2) := by decide +kernel
theorem dL_isAhead_304 : decode cL_isAhead 304 = .ok (.if_icmp .ne 43, 3) := by decide +kernel
theorem dL_isAhead_307 : decode cL_isAhead 307 = .ok (.aload_n 0, 1) := by decide +kernel
theorem dL_isAhead_308 : decode cL_isAhead 308 = .ok (.iconst 0, 1) := by decide +kernel
theorem dL_isAhead_309 : decode cL_isAhead 309 = .ok (.iconst 2, 1) := by decide +kernel
theorem dL_isAhead_310 : decode cL_isAhead 310 = .ok (.invokestatic 88, 3) := by decide +kernel
theorem dL_isAhead_313 : decode cL_isAhead 313 = .ok (.bipush (-32), 2) := by decide +kernel
theorem dL_isAhead_315 : decode cL_isAhead 315 = .ok (.if_icmp .ne 32, 3) := by decide +kernel
theorem dL_isAhead_318 : decode cL_isAhead 318 = .ok (.aload_n 0, 1) := by decide +kernel
theorem dL_isAhead_319 : decode cL_isAhead 319 = .ok (.bipush 8, 2) := by decide +kernel
theorem dL_isAhead_321 : decode cL_isAhead 321 = .ok (.bipush 8, 2) := by decide +kernel
theorem dL_isAhead_323 : decode cL_isAhead 323 = .ok (.invokestatic 92, 3) := by decide +kernel
theorem dL_isAhead_326 : decode cL_isAhead 326 = .ok (.bipush (-31), 2) := by decide +kernel
theorem dL_isAhead_328 : decode cL_isAhead 328 = .ok (.if_icmp .ne 19, 3) := by decide +kernel
theorem dL_isAhead_331 : decode cL_isAhead 331 = .ok (.aload_n 0, 1) := by decide +kernel
theorem dL_isAhead_332 : decode cL_isAhead 332 = .ok (.bipush 8, 2) := by decide +kernel
theorem dL_isAhead_334 : decode cL_isAhead 334 = .ok (.iconst 0, 1) := by decide +kernel
theorem dL_isAhead_335 : decode cL_isAhead 335 = .ok (.invokestatic 92, 3) := by decide +kernel
theorem dL_isAhead_338 : decode cL_isAhead 338 = .ok (.bipush (-32), 2) := by decide +kernel
theorem dL_isAhead_340 : decode cL_isAhead 340 = .ok (.if_icmp .ne 7, 3) := by decide +kernel
theorem dL_isAhead_343 : decode cL_isAhead 343 = .ok (.iconst 1, 1) := by decide +kernel
theorem dL_isAhead_344 : decode cL_isAhead 344 = .ok (.goto 4, 3) := by decide +kernel
theorem dL_isAhead_347 : decode cL_isAhead 347 = .ok (.iconst 0, 1) := by decide +kernel
theorem dL_isAhead_348 : decode cL_isAhead 348 = .ok (.ireturn, 1) := by decide +kernel
set_option maxRecDepth 20000 in
theorem ggL_act_L_low : GoodIn wsL_act wsL_low := goodIn_r _ [5, 6] (by decide +kernel) (by decide +kernel)
set_option maxRecDepth 20000 in
theorem gL_act_L_low : GoodIn wsL_act (va_wsS RL 94 yL_low wsL_low) := goodIn_app (goodIn_of _ (by decide +kernel)) ggL_act_L_low
set_option maxRecDepth 20000 in
theorem ggL_act_L_set : GoodIn wsL_act wsL_set := goodIn_ca (goodIn_ca (goodIn_r _ [9, 10, 11, 12, 13, 14, 15, 16, 17, 18, 19, 20, 21, 22, 23, 24, 25, 26, 27, 28, 29, 30, 31, 32, 33, 34, 35, 36, 37, 38, 39, 40, 41, 42, 43, 44, 45, 46, 47, 48, 49, 50, 51, 140, 141, 142, 143, 144, 145, 146, 147, 148, 149, 150, 151, 152] (by decide +kernel) (by decide +kernel)) (goodIn_sub (fun _ h => List.mem_cons_of_mem _ (List.mem_append_left _ (List.mem_append_right _ h))) (by decide +kernel))) (goodIn_sub (fun _ h => List.mem_cons_of_mem _ (List.mem_append_right _ h)) (by decide +kernel))
set_option maxRecDepth 20000 in
theorem gL_act_L_set : GoodIn wsL_act (va_wsS RL 97 yL_set wsL_set) := goodIn_app (goodIn_of _ (by decide +kernel)) ggL_act_L_set
set_option maxRecDepth 20000 in
theorem ggL_act_L_lose : GoodIn wsL_act wsL_lose := goodIn_ca (goodIn_r _ [54, 10, 55, 56, 57, 15, 58, 17, 18, 21, 22, 23, 24, 25, 26, 27, 28, 29, 30, 31, 32, 33, 34, 35, 36, 37, 38, 39, 40, 41, 42, 43, 44, 45, 46, 47, 48, 49, 50, 51, 59, 60, 61, 140, 141, 142, 143, 144, 145, 146, 147, 148, 149, 150, 151, 152] (by decide +kernel) (by decide +kernel)) (goodIn_sub (fun _ h => List.mem_cons_of_mem _ (List.mem_append_left _ (List.mem_append_right _ h))) (by decide +kernel))
set_option maxRecDepth 20000 in
theorem gL_act_L_lose : GoodIn wsL_act (va_wsS RL 99 yL_lose wsL_lose) := goodIn_app (goodIn_of _ (by decide +kernel)) ggL_act_L_lose
set_option maxRecDepth 20000 in
theorem ggL_act_L_wave : GoodIn wsL_act wsL_wave := goodIn_r _ [64] (by decide +kernel) (by decide +kernel)
set_option maxRecDepth 20000 in
theorem gL_act_L_wave : GoodIn wsL_act (va_wsS RL 61 yL_wave wsL_wave) := goodIn_app (goodIn_of _ (by decide +kernel)) ggL_act_L_wave
set_option maxRecDepth 20000 in
theorem ggL_act_L_turn : GoodIn wsL_act wsL_turn := goodIn_ca (goodIn_r _ [67, 11, 68, 69, 70, 15, 71, 19, 20, 21, 22, 23, 24, 25, 26, 27, 28, 29, 30, 31, 32, 33, 34, 35, 36, 37, 38, 39, 40, 41, 42, 43, 44, 45, 46, 47, 48, 49, 50, 51, 72, 73, 74, 75, 76, 77, 78, 79, 80, 81, 140, 141, 142, 143, 144, 145, 146, 147, 148, 149, 150, 151, 152] (by decide +kernel) (by decide +kernel)) (goodIn_sub (fun _ h => List.mem_cons_of_mem _ (List.mem_append_right _ h)) (by decide +kernel))
set_option maxRecDepth 20000 in
theorem gL_act_L_turn : GoodIn wsL_act (va_wsS RL 102 yL_turn wsL_turn) := goodIn_app (goodIn_of _ (by decide +kernel)) ggL_act_L_turn
set_option maxRecDepth 20000 in
theorem ggL_act_L_turning : GoodIn wsL_act wsL_turning := goodIn_r _ [84] (by decide +kernel) (by decide +kernel)
set_option maxRecDepth 20000 in
theorem gL_act_L_turning : GoodIn wsL_act (va_wsS RL 70 yL_turning wsL_turning) := goodIn_app (goodIn_of _ (by decide +kernel)) ggL_act_L_turning
set_option maxRecDepth 20000 in
theorem ggL_act_L_amount : GoodIn wsL_act wsL_amount := goodIn_r _ [87] (by decide +kernel) (by decide +kernel)
set_option maxRecDepth 20000 in
theorem gL_act_L_amount : GoodIn wsL_act (va_wsS RL 78 yL_amount wsL_amount) := goodIn_app (goodIn_of _ (by decide +kernel)) ggL_act_L_amount
set_option maxRecDepth 20000 in
theorem ggL_act_L_drop : GoodIn wsL_act wsL_drop := goodIn_ca (goodIn_r _ [90, 11, 91, 92, 93, 15, 94, 19, 20, 21, 22, 95, 96, 38, 97, 26, 27, 28, 29, 30, 31, 32, 33, 34, 35, 36, 37, 39, 40, 41, 42, 43, 44, 45, 46, 47, 48, 49, 50, 51, 140, 141, 142, 143, 144, 145, 146, 147, 148, 149, 150, 151, 152] (by decide +kernel) (by decide +kernel)) (goodIn_sub (fun _ h => List.mem_cons_of_mem _ (List.mem_append_right _ h)) (by decide +kernel))
set_option maxRecDepth 20000 in
theorem gL_act_L_drop : GoodIn wsL_act (va_wsS RL 104 yL_drop wsL_drop) := goodIn_app (goodIn_of _ (by decide +kernel)) ggL_act_L_drop
set_option maxRecDepth 20000 in
theorem ggL_act_L_point : GoodIn wsL_act wsL_point := goodIn_ca (goodIn_ca (goodIn_r _ [100, 10, 11, 101, 102, 103, 15, 104, 17, 18, 19, 20, 21, 22, 23, 24, 25, 26, 27, 28, 29, 30, 31, 32, 33, 34, 35, 36, 37, 38, 39, 40, 41, 42, 43, 44, 45, 46, 47, 48, 49, 50, 51, 140, 141, 142, 143, 144, 145, 146, 147, 148, 149, 150, 151, 152] (by decide +kernel) (by decide +kernel)) (goodIn_sub (fun _ h => List.mem_cons_of_mem _ (List.mem_append_left _ (List.mem_append_right _ h))) (by decide +kernel))) (goodIn_sub (fun _ h => List.mem_cons_of_mem _ (List.mem_append_right _ h)) (by decide +kernel))
set_option maxRecDepth 20000 in
theorem gL_act_L_point : GoodIn wsL_act (va_wsS RL 106 yL_point wsL_point) := goodIn_app (goodIn_of _ (by decide +kernel)) ggL_act_L_point
set_option maxRecDepth 20000 in
theorem ggL_act_X3_copy : GoodIn wsL_act wsX3_copy := goodIn_r _ [108, 21, 22, 29, 30, 31, 32, 33, 34, 35, 36, 37, 38, 39, 40, 41, 42, 43, 44, 45, 46, 47, 48, 49, 50, 51, 109, 110, 111, 112, 113, 114, 115, 116, 59, 60, 61, 73, 15, 74, 75, 76, 77, 78, 79, 80, 81, 140, 141, 142, 143, 144, 145, 146, 147, 148, 149, 150, 151, 152] (by decide +kernel) (by decide +kernel)
set_option maxRecDepth 20000 in
theorem gL_act_X3_copy : GoodIn wsL_act (wsV RL 108 RX3 yX3_copy wsX3_copy) := goodIn_app (goodIn_of _ (by decide +kernel)) ggL_act_X3_copy
set_option maxRecDepth 20000 in
theorem ggL_act_L_halves : GoodIn wsL_act wsL_halves := goodIn_r _ [119] (by decide +kernel) (by decide +kernel)
set_option maxRecDepth 20000 in
theorem gL_act_L_halves : GoodIn wsL_act (va_wsS RL 53 yL_halves wsL_halves) := goodIn_app (goodIn_of _ (by decide +kernel)) ggL_act_L_halves
set_option maxRecDepth 20000 in
theorem ggL_act_L_eighth : GoodIn wsL_act wsL_eighth := goodIn_r _ [122, 123, 124] (by decide +kernel) (by decide +kernel)
set_option maxRecDepth 20000 in
theorem gL_act_L_eighth : GoodIn wsL_act (va_wsS RL 64 yL_eighth wsL_eighth) := goodIn_app (goodIn_of _ (by decide +kernel)) ggL_act_L_eighth
set_option maxRecDepth 20000 in
theorem ggL_act_X3_fit : GoodIn wsL_act wsX3_fit := goodIn_r _ [128, 21, 22, 129, 37, 38, 39, 130, 131, 132, 29, 30, 31, 32, 33, 34, 35, 36, 40, 41, 42, 43, 44, 45, 46, 47, 48, 49, 50, 51, 133, 134, 135, 73, 15, 74, 75, 76, 77, 78, 79, 80, 81, 136, 137, 138, 139, 140, 141, 142, 143, 144, 145, 146, 147, 148, 149, 150, 151, 152] (by decide +kernel) (by decide +kernel)
set_option maxRecDepth 20000 in
theorem gL_act_X3_fit : GoodIn wsL_act (wsV RL 111 RX3 yX3_fit wsX3_fit) := goodIn_app (goodIn_of _ (by decide +kernel)) ggL_act_X3_fit
theorem dL_act_0 : decode cL_act 0 = .ok (.iload_n 1, 1) := by decide +kernel
theorem dL_act_1 : decode cL_act 1 = .ok (.bipush 16, 2) := by decide +kernel
theorem dL_act_3 : decode cL_act 3 = .ok (.invokestatic 94, 3) := by decide +kernel
theorem dL_act_6 : decode cL_act 6 = .ok (.istore 8, 2) := by decide +kernel
theorem dL_act_8 : decode cL_act 8 = .ok (.iload_n 2, 1) := by decide +kernel
theorem dL_act_9 : decode cL_act 9 = .ok (.bipush 8, 2) := by decide +kernel
theorem dL_act_11 : decode cL_act 11 = .ok (.invokestatic 94, 3) := by decide +kernel
theorem dL_act_14 : decode cL_act 14 = .ok (.istore 9, 2) := by decide +kernel
theorem dL_act_16 : decode cL_act 16 = .ok (.iload 8, 2) := by decide +kernel
theorem dL_act_18 : decode cL_act 18 = .ok (.iconst 5, 1) := by decide +kernel
theorem dL_act_19 : decode cL_act 19 = .ok (.if_icmp .ge 113, 3) := by decide +kernel
theorem dL_act_22 : decode cL_act 22 = .ok (.aload_n 3, 1) := by decide +kernel
theorem dL_act_23 : decode cL_act 23 = .ok (.iload 9, 2) := by decide +kernel
theorem dL_act_25 : decode cL_act 25 = .ok (.iaload, 1) := by decide +kernel
theorem dL_act_26 : decode cL_act 26 = .ok (.istore 10, 2) := by decide +kernel
theorem dL_act_28 : decode cL_act 28 = .ok (.aload_n 3, 1) := by decide +kernel
theorem dL_act_29 : decode cL_act 29 = .ok (.iload 9, 2) := by decide +kernel
theorem dL_act_31 : decode cL_act 31 = .ok (.iload_n 2, 1) := by decide +kernel
theorem dL_act_32 : decode cL_act 32 = .ok (.iconst 3, 1) := by decide +kernel
theorem dL_act_33 : decode cL_act 33 = .ok (.ishr, 1) := by decide +kernel
theorem dL_act_34 : decode cL_act 34 = .ok (.iload_n 2, 1) := by decide +kernel
theorem dL_act_35 : decode cL_act 35 = .ok (.bipush 20, 2) := by decide +kernel
theorem dL_act_37 : decode cL_act 37 = .ok (.ishr, 1) := by decide +kernel
theorem dL_act_38 : decode cL_act 38 = .ok (.iconst 1, 1) := by decide +kernel
theorem dL_act_39 : decode cL_act 39 = .ok (.iand, 1) := by decide +kernel
theorem dL_act_40 : decode cL_act 40 = .ok (.ifCond .ne 8, 3) := by decide +kernel
theorem dL_act_43 : decode cL_act 43 = .ok (.bipush 21, 2) := by decide +kernel
theorem dL_act_45 : decode cL_act 45 = .ok (.goto 6, 3) := by decide +kernel
theorem dL_act_48 : decode cL_act 48 = .ok (.sipush 199, 3) := by decide +kernel
theorem dL_act_51 : decode cL_act 51 = .ok (.invokestatic 94, 3) := by decide +kernel
theorem dL_act_54 : decode cL_act 54 = .ok (.iload_n 2, 1) := by decide +kernel
theorem dL_act_55 : decode cL_act 55 = .ok (.bipush 20, 2) := by decide +kernel
theorem dL_act_57 : decode cL_act 57 = .ok (.ishr, 1) := by decide +kernel
theorem dL_act_58 : decode cL_act 58 = .ok (.iconst 1, 1) := by decide +kernel
theorem dL_act_59 : decode cL_act 59 = .ok (.iand, 1) := by decide +kernel
theorem dL_act_60 : decode cL_act 60 = .ok (.ifCond .ne 8, 3) := by decide +kernel
theorem dL_act_63 : decode cL_act 63 = .ok (.bipush 10, 2) := by decide +kernel
theorem dL_act_65 : decode cL_act 65 = .ok (.goto 5, 3) := by decide +kernel
theorem dL_act_68 : decode cL_act 68 = .ok (.bipush 99, 2) := by decide +kernel
theorem dL_act_70 : decode cL_act 70 = .ok (.isub, 1) := by decide +kernel
theorem dL_act_71 : decode cL_act 71 = .ok (.iastore, 1) := by decide +kernel
theorem dL_act_72 : decode cL_act 72 = .ok (.aload_n 0, 1) := by decide +kernel
theorem dL_act_73 : decode cL_act 73 = .ok (.iload 9, 2) := by decide +kernel
theorem dL_act_75 : decode cL_act 75 = .ok (.aload_n 3, 1) := by decide +kernel
theorem dL_act_76 : decode cL_act 76 = .ok (.iload 9, 2) := by decide +kernel
theorem dL_act_78 : decode cL_act 78 = .ok (.iaload, 1) := by decide +kernel
theorem dL_act_79 : decode cL_act 79 = .ok (.invokestatic 97, 3) := by decide +kernel
theorem dL_act_82 : decode cL_act 82 = .ok (.iload 10, 2) := by decide +kernel
theorem dL_act_84 : decode cL_act 84 = .ok (.if_icmp .ne 46, 3) := by decide +kernel
theorem dL_act_87 : decode cL_act 87 = .ok (.aload_n 0, 1) := by decide +kernel
theorem dL_act_88 : decode cL_act 88 = .ok (.bipush 8, 2) := by decide +kernel
theorem dL_act_90 : decode cL_act 90 = .ok (.bipush 100, 2) := by decide +kernel
theorem dL_act_92 : decode cL_act 92 = .ok (.invokestatic 97, 3) := by decide +kernel
theorem dL_act_95 : decode cL_act 95 = .ok (.bipush (-31), 2) := by decide +kernel
theorem dL_act_97 : decode cL_act 97 = .ok (.if_icmp .ne 33, 3) := by decide +kernel
theorem dL_act_100 : decode cL_act 100 = .ok (.aload_n 0, 1) := by decide +kernel
theorem dL_act_101 : decode cL_act 101 = .ok (.iload 9, 2) := by decide +kernel
theorem dL_act_103 : decode cL_act 103 = .ok (.bipush 100, 2) := by decide +kernel
theorem dL_act_105 : decode cL_act 105 = .ok (.invokestatic 97, 3) := by decide +kernel
theorem dL_act_108 : decode cL_act 108 = .ok (.bipush (-32), 2) := by decide +kernel
theorem dL_act_110 : decode cL_act 110 = .ok (.if_icmp .ne 20, 3) := by decide +kernel
theorem dL_act_113 : decode cL_act 113 = .ok (.aload_n 0, 1) := by decide +kernel
theorem dL_act_114 : decode cL_act 114 = .ok (.iload 9, 2) := by decide +kernel
theorem dL_act_116 : decode cL_act 116 = .ok (.bipush (-100), 2) := by decide +kernel
theorem dL_act_118 : decode cL_act 118 = .ok (.invokestatic 97, 3) := by decide +kernel
theorem dL_act_121 : decode cL_act 121 = .ok (.bipush (-32), 2) := by decide +kernel
theorem dL_act_123 : decode cL_act 123 = .ok (.if_icmp .ne 7, 3) := by decide +kernel
theorem dL_act_126 : decode cL_act 126 = .ok (.iconst 1, 1) := by decide +kernel
theorem dL_act_127 : decode cL_act 127 = .ok (.goto 4, 3) := by decide +kernel
theorem dL_act_130 : decode cL_act 130 = .ok (.iconst 0, 1) := by decide +kernel
theorem dL_act_131 : decode cL_act 131 = .ok (.ireturn, 1) := by decide +kernel
theorem dL_act_132 : decode cL_act 132 = .ok (.iload 8, 2) := by decide +kernel
theorem dL_act_134 : decode cL_act 134 = .ok (.bipush 7, 2) := by decide +kernel
theorem dL_act_136 : decode cL_act 136 = .ok (.if_icmp .ge 45, 3) := by decide +kernel
theorem dL_act_139 : decode cL_act 139 = .ok (.aload 4, 2) := by decide +kernel
theorem dL_act_141 : decode cL_act 141 = .ok (.iload 9, 2) := by decide +kernel
theorem dL_act_143 : decode cL_act 143 = .ok (.iconst 1, 1) := by decide +kernel
theorem dL_act_144 : decode cL_act 144 = .ok (.aload 4, 2) := by decide +kernel
theorem dL_act_146 : decode cL_act 146 = .ok (.iload 9, 2) := by decide +kernel
theorem dL_act_148 : decode cL_act 148 = .ok (.iaload, 1) := by decide +kernel
theorem dL_act_149 : decode cL_act 149 = .ok (.isub, 1) := by decide +kernel
theorem dL_act_150 : decode cL_act 150 = .ok (.iastore, 1) := by decide +kernel
theorem dL_act_151 : decode cL_act 151 = .ok (.aload_n 0, 1) := by decide +kernel
theorem dL_act_152 : decode cL_act 152 = .ok (.iload 9, 2) := by decide +kernel
theorem dL_act_154 : decode cL_act 154 = .ok (.invokestatic 99, 3) := by decide +kernel
theorem dL_act_157 : decode cL_act 157 = .ok (.aload 4, 2) := by decide +kernel
theorem dL_act_159 : decode cL_act 159 = .ok (.iload 9, 2) := by decide +kernel
theorem dL_act_161 : decode cL_act 161 = .ok (.iaload, 1) := by decide +kernel
theorem dL_act_162 : decode cL_act 162 = .ok (.if_icmp .ne 17, 3) := by decide +kernel
theorem dL_act_165 : decode cL_act 165 = .ok (.aload_n 0, 1) := by decide +kernel
theorem dL_act_166 : decode cL_act 166 = .ok (.iconst (-1), 1) := by decide +kernel
theorem dL_act_167 : decode cL_act 167 = .ok (.invokestatic 99, 3) := by decide +kernel
theorem dL_act_170 : decode cL_act 170 = .ok (.bipush (-31), 2) := by decide +kernel
theorem dL_act_172 : decode cL_act 172 = .ok (.if_icmp .ne 7, 3) := by decide +kernel
theorem dL_act_175 : decode cL_act 175 = .ok (.iconst 1, 1) := by decide +kernel
theorem dL_act_176 : decode cL_act 176 = .ok (.goto 4, 3) := by decide +kernel
theorem dL_act_179 : decode cL_act 179 = .ok (.iconst 0, 1) := by decide +kernel
theorem dL_act_180 : decode cL_act 180 = .ok (.ireturn, 1) := by decide +kernel
theorem dL_act_181 : decode cL_act 181 = .ok (.iload 8, 2) := by decide +kernel
theorem dL_act_183 : decode cL_act 183 = .ok (.bipush 7, 2) := by decide +kernel
theorem dL_act_185 : decode cL_act 185 = .ok (.if_icmp .ne 91, 3) := by decide +kernel
theorem dL_act_188 : decode cL_act 188 = .ok (.iconst 0, 1) := by decide +kernel
theorem dL_act_189 : decode cL_act 189 = .ok (.istore 10, 2) := by decide +kernel
theorem dL_act_191 : decode cL_act 191 = .ok (.iconst 0, 1) := by decide +kernel
theorem dL_act_192 : decode cL_act 192 = .ok (.istore 11, 2) := by decide +kernel
theorem dL_act_194 : decode cL_act 194 = .ok (.iload 11, 2) := by decide +kernel
theorem dL_act_196 : decode cL_act 196 = .ok (.bipush 8, 2) := by decide +kernel
theorem dL_act_198 : decode cL_act 198 = .ok (.if_icmp .ge 50, 3) := by decide +kernel
theorem dL_act_201 : decode cL_act 201 = .ok (.iload 10, 2) := by decide +kernel
theorem dL_act_203 : decode cL_act 203 = .ok (.aload_n 3, 1) := by decide +kernel
theorem dL_act_204 : decode cL_act 204 = .ok (.iload 11, 2) := by decide +kernel
theorem dL_act_206 : decode cL_act 206 = .ok (.iaload, 1) := by decide +kernel
theorem dL_act_207 : decode cL_act 207 = .ok (.ifCond .eq 17, 3) := by decide +kernel
theorem dL_act_210 : decode cL_act 210 = .ok (.iload 11, 2) := by decide +kernel
theorem dL_act_212 : decode cL_act 212 = .ok (.iload 9, 2) := by decide +kernel
theorem dL_act_214 : decode cL_act 214 = .ok (.invokestatic 61, 3) := by decide +kernel
theorem dL_act_217 : decode cL_act 217 = .ok (.ifCond .ge 7, 3) := by decide +kernel
theorem dL_act_220 : decode cL_act 220 = .ok (.iconst 1, 1) := by decide +kernel
theorem dL_act_221 : decode cL_act 221 = .ok (.goto 4, 3) := by decide +kernel
theorem dL_act_224 : decode cL_act 224 = .ok (.iconst 0, 1) := by decide +kernel
theorem dL_act_225 : decode cL_act 225 = .ok (.iadd, 1) := by decide +kernel
theorem dL_act_226 : decode cL_act 226 = .ok (.istore 10, 2) := by decide +kernel
theorem dL_act_228 : decode cL_act 228 = .ok (.aload_n 3, 1) := by decide +kernel
theorem dL_act_229 : decode cL_act 229 = .ok (.iload 11, 2) := by decide +kernel
theorem dL_act_231 : decode cL_act 231 = .ok (.dup2, 1) := by decide +kernel
theorem dL_act_232 : decode cL_act 232 = .ok (.iaload, 1) := by decide +kernel
theorem dL_act_233 : decode cL_act 233 = .ok (.iload 11, 2) := by decide +kernel
theorem dL_act_235 : decode cL_act 235 = .ok (.iload 9, 2) := by decide +kernel
theorem dL_act_237 : decode cL_act 237 = .ok (.invokestatic 61, 3) := by decide +kernel
theorem dL_act_240 : decode cL_act 240 = .ok (.imul, 1) := by decide +kernel
theorem dL_act_241 : decode cL_act 241 = .ok (.iastore, 1) := by decide +kernel
theorem dL_act_242 : decode cL_act 242 = .ok (.iinc 11 1, 3) := by decide +kernel
theorem dL_act_245 : decode cL_act 245 = .ok (.goto (-51), 3) := by decide +kernel
theorem dL_act_248 : decode cL_act 248 = .ok (.aload_n 0, 1) := by decide +kernel
theorem dL_act_249 : decode cL_act 249 = .ok (.iload 9, 2) := by decide +kernel
theorem dL_act_251 : decode cL_act 251 = .ok (.invokestatic 102, 3) := by decide +kernel
theorem dL_act_254 : decode cL_act 254 = .ok (.iload 10, 2) := by decide +kernel
theorem dL_act_256 : decode cL_act 256 = .ok (.if_icmp .ne 18, 3) := by decide +kernel
theorem dL_act_259 : decode cL_act 259 = .ok (.aload_n 0, 1) := by decide +kernel
theorem dL_act_260 : decode cL_act 260 = .ok (.bipush 8, 2) := by decide +kernel
theorem dL_act_262 : decode cL_act 262 = .ok (.invokestatic 102, 3) := by decide +kernel
theorem dL_act_265 : decode cL_act 265 = .ok (.bipush (-32), 2) := by decide +kernel
theorem dL_act_267 : decode cL_act 267 = .ok (.if_icmp .ne 7, 3) := by decide +kernel
theorem dL_act_270 : decode cL_act 270 = .ok (.iconst 1, 1) := by decide +kernel
theorem dL_act_271 : decode cL_act 271 = .ok (.goto 4, 3) := by decide +kernel
theorem dL_act_274 : decode cL_act 274 = .ok (.iconst 0, 1) := by decide +kernel
theorem dL_act_275 : decode cL_act 275 = .ok (.ireturn, 1) := by decide +kernel
theorem dL_act_276 : decode cL_act 276 = .ok (.iload 8, 2) := by decide +kernel
theorem dL_act_278 : decode cL_act 278 = .ok (.bipush 8, 2) := by decide +kernel
theorem dL_act_280 : decode cL_act 280 = .ok (.if_icmp .ne 118, 3) := by decide +kernel
theorem dL_act_283 : decode cL_act 283 = .ok (.iconst 1, 1) := by decide +kernel
theorem dL_act_284 : decode cL_act 284 = .ok (.iload_n 2, 1) := by decide +kernel
theorem dL_act_285 : decode cL_act 285 = .ok (.iconst 3, 1) := by decide +kernel
theorem dL_act_286 : decode cL_act 286 = .ok (.ishr, 1) := by decide +kernel
theorem dL_act_287 : decode cL_act 287 = .ok (.iload_n 2, 1) := by decide +kernel
theorem dL_act_288 : decode cL_act 288 = .ok (.bipush 20, 2) := by decide +kernel
theorem dL_act_290 : decode cL_act 290 = .ok (.ishr, 1) := by decide +kernel
theorem dL_act_291 : decode cL_act 291 = .ok (.iconst 1, 1) := by decide +kernel
theorem dL_act_292 : decode cL_act 292 = .ok (.iand, 1) := by decide +kernel
theorem dL_act_293 : decode cL_act 293 = .ok (.ifCond .ne 8, 3) := by decide +kernel
theorem dL_act_296 : decode cL_act 296 = .ok (.bipush 12, 2) := by decide +kernel
theorem dL_act_298 : decode cL_act 298 = .ok (.goto 5, 3) := by decide +kernel
theorem dL_act_301 : decode cL_act 301 = .ok (.bipush 99, 2) := by decide +kernel
theorem dL_act_303 : decode cL_act 303 = .ok (.invokestatic 94, 3) := by decide +kernel
theorem dL_act_306 : decode cL_act 306 = .ok (.iadd, 1) := by decide +kernel
theorem dL_act_307 : decode cL_act 307 = .ok (.istore 10, 2) := by decide +kernel
theorem dL_act_309 : decode cL_act 309 = .ok (.aload_n 3, 1) := by decide +kernel
theorem dL_act_310 : decode cL_act 310 = .ok (.invokestatic 70, 3) := by decide +kernel
theorem dL_act_313 : decode cL_act 313 = .ok (.istore 11, 2) := by decide +kernel
theorem dL_act_315 : decode cL_act 315 = .ok (.iconst 0, 1) := by decide +kernel
theorem dL_act_316 : decode cL_act 316 = .ok (.istore 12, 2) := by decide +kernel
theorem dL_act_318 : decode cL_act 318 = .ok (.iload 12, 2) := by decide +kernel
theorem dL_act_320 : decode cL_act 320 = .ok (.bipush 8, 2) := by decide +kernel
theorem dL_act_322 : decode cL_act 322 = .ok (.if_icmp .ge 33, 3) := by decide +kernel
theorem dL_act_325 : decode cL_act 325 = .ok (.aload_n 3, 1) := by decide +kernel
theorem dL_act_326 : decode cL_act 326 = .ok (.iload 12, 2) := by decide +kernel
theorem dL_act_328 : decode cL_act 328 = .ok (.aload_n 3, 1) := by decide +kernel
theorem dL_act_329 : decode cL_act 329 = .ok (.iload 12, 2) := by decide +kernel
theorem dL_act_331 : decode cL_act 331 = .ok (.iaload, 1) := by decide +kernel
theorem dL_act_332 : decode cL_act 332 = .ok (.invokestatic 78, 3) := by decide +kernel
theorem dL_act_335 : decode cL_act 335 = .ok (.iload 10, 2) := by decide +kernel
theorem dL_act_337 : decode cL_act 337 = .ok (.if_icmp .lt 10, 3) := by decide +kernel
theorem dL_act_340 : decode cL_act 340 = .ok (.aload_n 3, 1) := by decide +kernel
theorem dL_act_341 : decode cL_act 341 = .ok (.iload 12, 2) := by decide +kernel
theorem dL_act_343 : decode cL_act 343 = .ok (.iaload, 1) := by decide +kernel
theorem dL_act_344 : decode cL_act 344 = .ok (.goto 4, 3) := by decide +kernel
theorem dL_act_347 : decode cL_act 347 = .ok (.iconst 0, 1) := by decide +kernel
theorem dL_act_348 : decode cL_act 348 = .ok (.iastore, 1) := by decide +kernel
theorem dL_act_349 : decode cL_act 349 = .ok (.iinc 12 1, 3) := by decide +kernel
theorem dL_act_352 : decode cL_act 352 = .ok (.goto (-34), 3) := by decide +kernel
theorem dL_act_355 : decode cL_act 355 = .ok (.aload_n 0, 1) := by decide +kernel
theorem dL_act_356 : decode cL_act 356 = .ok (.iload 10, 2) := by decide +kernel
theorem dL_act_358 : decode cL_act 358 = .ok (.invokestatic 104, 3) := by decide +kernel
theorem dL_act_361 : decode cL_act 361 = .ok (.iload 11, 2) := by decide +kernel
theorem dL_act_363 : decode cL_act 363 = .ok (.aload_n 3, 1) := by decide +kernel
theorem dL_act_364 : decode cL_act 364 = .ok (.invokestatic 70, 3) := by decide +kernel
theorem dL_act_367 : decode cL_act 367 = .ok (.isub, 1) := by decide +kernel
theorem dL_act_368 : decode cL_act 368 = .ok (.if_icmp .ne 28, 3) := by decide +kernel
theorem dL_act_371 : decode cL_act 371 = .ok (.aload_n 0, 1) := by decide +kernel
theorem dL_act_372 : decode cL_act 372 = .ok (.iconst 0, 1) := by decide +kernel
theorem dL_act_373 : decode cL_act 373 = .ok (.invokestatic 104, 3) := by decide +kernel
theorem dL_act_376 : decode cL_act 376 = .ok (.bipush (-32), 2) := by decide +kernel
theorem dL_act_378 : decode cL_act 378 = .ok (.if_icmp .ne 18, 3) := by decide +kernel
theorem dL_act_381 : decode cL_act 381 = .ok (.aload_n 0, 1) := by decide +kernel
theorem dL_act_382 : decode cL_act 382 = .ok (.bipush 100, 2) := by decide +kernel
theorem dL_act_384 : decode cL_act 384 = .ok (.invokestatic 104, 3) := by decide +kernel
theorem dL_act_387 : decode cL_act 387 = .ok (.bipush (-32), 2) := by decide +kernel
theorem dL_act_389 : decode cL_act 389 = .ok (.if_icmp .ne 7, 3) := by decide +kernel
theorem dL_act_392 : decode cL_act 392 = .ok (.iconst 1, 1) := by decide +kernel
theorem dL_act_393 : decode cL_act 393 = .ok (.goto 4, 3) := by decide +kernel
theorem dL_act_396 : decode cL_act 396 = .ok (.iconst 0, 1) := by decide +kernel
theorem dL_act_397 : decode cL_act 397 = .ok (.ireturn, 1) := by decide +kernel
theorem dL_act_398 : decode cL_act 398 = .ok (.iload 8, 2) := by decide +kernel
theorem dL_act_400 : decode cL_act 400 = .ok (.bipush 12, 2) := by decide +kernel
theorem dL_act_402 : decode cL_act 402 = .ok (.if_icmp .ge 116, 3) := by decide +kernel
theorem dL_act_405 : decode cL_act 405 = .ok (.aload 5, 2) := by decide +kernel
theorem dL_act_407 : decode cL_act 407 = .ok (.iload 9, 2) := by decide +kernel
theorem dL_act_409 : decode cL_act 409 = .ok (.iaload, 1) := by decide +kernel
theorem dL_act_410 : decode cL_act 410 = .ok (.istore 10, 2) := by decide +kernel
theorem dL_act_412 : decode cL_act 412 = .ok (.aload 5, 2) := by decide +kernel
theorem dL_act_414 : decode cL_act 414 = .ok (.iload 9, 2) := by decide +kernel
theorem dL_act_416 : decode cL_act 416 = .ok (.iload_n 2, 1) := by decide +kernel
theorem dL_act_417 : decode cL_act 417 = .ok (.iconst 3, 1) := by decide +kernel
theorem dL_act_418 : decode cL_act 418 = .ok (.ishr, 1) := by decide +kernel
theorem dL_act_419 : decode cL_act 419 = .ok (.iload_n 2, 1) := by decide +kernel
theorem dL_act_420 : decode cL_act 420 = .ok (.bipush 20, 2) := by decide +kernel
theorem dL_act_422 : decode cL_act 422 = .ok (.ishr, 1) := by decide +kernel
theorem dL_act_423 : decode cL_act 423 = .ok (.iconst 3, 1) := by decide +kernel
theorem dL_act_424 : decode cL_act 424 = .ok (.iand, 1) := by decide +kernel
theorem dL_act_425 : decode cL_act 425 = .ok (.ifCond .ne 9, 3) := by decide +kernel
theorem dL_act_428 : decode cL_act 428 = .ok (.sipush 19999, 3) := by decide +kernel
theorem dL_act_431 : decode cL_act 431 = .ok (.goto 5, 3) := by decide +kernel
theorem dL_act_434 : decode cL_act 434 = .ok (.bipush 101, 2) := by decide +kernel
theorem dL_act_436 : decode cL_act 436 = .ok (.invokestatic 94, 3) := by decide +kernel
theorem dL_act_439 : decode cL_act 439 = .ok (.iload_n 2, 1) := by decide +kernel
theorem dL_act_440 : decode cL_act 440 = .ok (.bipush 20, 2) := by decide +kernel
theorem dL_act_442 : decode cL_act 442 = .ok (.ishr, 1) := by decide +kernel
theorem dL_act_443 : decode cL_act 443 = .ok (.iconst 3, 1) := by decide +kernel
theorem dL_act_444 : decode cL_act 444 = .ok (.iand, 1) := by decide +kernel
theorem dL_act_445 : decode cL_act 445 = .ok (.ifCond .ne 9, 3) := by decide +kernel
theorem dL_act_448 : decode cL_act 448 = .ok (.sipush 9999, 3) := by decide +kernel
theorem dL_act_451 : decode cL_act 451 = .ok (.goto 5, 3) := by decide +kernel
theorem dL_act_454 : decode cL_act 454 = .ok (.bipush 50, 2) := by decide +kernel
theorem dL_act_456 : decode cL_act 456 = .ok (.isub, 1) := by decide +kernel
theorem dL_act_457 : decode cL_act 457 = .ok (.iastore, 1) := by decide +kernel
theorem dL_act_458 : decode cL_act 458 = .ok (.aload_n 0, 1) := by decide +kernel
theorem dL_act_459 : decode cL_act 459 = .ok (.iload 9, 2) := by decide +kernel
theorem dL_act_461 : decode cL_act 461 = .ok (.aload 5, 2) := by decide +kernel
theorem dL_act_463 : decode cL_act 463 = .ok (.iload 9, 2) := by decide +kernel
theorem dL_act_465 : decode cL_act 465 = .ok (.iaload, 1) := by decide +kernel
theorem dL_act_466 : decode cL_act 466 = .ok (.invokestatic 106, 3) := by decide +kernel
theorem dL_act_469 : decode cL_act 469 = .ok (.iload 10, 2) := by decide +kernel
theorem dL_act_471 : decode cL_act 471 = .ok (.if_icmp .ne 45, 3) := by decide +kernel
theorem dL_act_474 : decode cL_act 474 = .ok (.aload_n 0, 1) := by decide +kernel
theorem dL_act_475 : decode cL_act 475 = .ok (.bipush 8, 2) := by decide +kernel
theorem dL_act_477 : decode cL_act 477 = .ok (.iconst 0, 1) := by decide +kernel
theorem dL_act_478 : decode cL_act 478 = .ok (.invokestatic 106, 3) := by decide +kernel
theorem dL_act_481 : decode cL_act 481 = .ok (.bipush (-31), 2) := by decide +kernel
theorem dL_act_483 : decode cL_act 483 = .ok (.if_icmp .ne 33, 3) := by decide +kernel
theorem dL_act_486 : decode cL_act 486 = .ok (.aload_n 0, 1) := by decide +kernel
theorem dL_act_487 : decode cL_act 487 = .ok (.iconst 0, 1) := by decide +kernel
theorem dL_act_488 : decode cL_act 488 = .ok (.sipush 10000, 3) := by decide +kernel
theorem dL_act_491 : decode cL_act 491 = .ok (.invokestatic 106, 3) := by decide +kernel
theorem dL_act_494 : decode cL_act 494 = .ok (.bipush (-32), 2) := by decide +kernel
theorem dL_act_496 : decode cL_act 496 = .ok (.if_icmp .ne 20, 3) := by decide +kernel
theorem dL_act_499 : decode cL_act 499 = .ok (.aload_n 0, 1) := by decide +kernel
theorem dL_act_500 : decode cL_act 500 = .ok (.iconst 0, 1) := by decide +kernel
theorem dL_act_501 : decode cL_act 501 = .ok (.sipush (-10000), 3) := by decide +kernel
theorem dL_act_504 : decode cL_act 504 = .ok (.invokestatic 106, 3) := by decide +kernel
theorem dL_act_507 : decode cL_act 507 = .ok (.bipush (-32), 2) := by decide +kernel
theorem dL_act_509 : decode cL_act 509 = .ok (.if_icmp .ne 7, 3) := by decide +kernel
theorem dL_act_512 : decode cL_act 512 = .ok (.iconst 1, 1) := by decide +kernel
theorem dL_act_513 : decode cL_act 513 = .ok (.goto 4, 3) := by decide +kernel
theorem dL_act_516 : decode cL_act 516 = .ok (.iconst 0, 1) := by decide +kernel
theorem dL_act_517 : decode cL_act 517 = .ok (.ireturn, 1) := by decide +kernel
theorem dL_act_518 : decode cL_act 518 = .ok (.iload 8, 2) := by decide +kernel
theorem dL_act_520 : decode cL_act 520 = .ok (.bipush 14, 2) := by decide +kernel
theorem dL_act_522 : decode cL_act 522 = .ok (.if_icmp .ge 70, 3) := by decide +kernel
theorem dL_act_525 : decode cL_act 525 = .ok (.iconst 0, 1) := by decide +kernel
theorem dL_act_526 : decode cL_act 526 = .ok (.istore 10, 2) := by decide +kernel
theorem dL_act_528 : decode cL_act 528 = .ok (.iconst 0, 1) := by decide +kernel
theorem dL_act_529 : decode cL_act 529 = .ok (.istore 11, 2) := by decide +kernel
theorem dL_act_531 : decode cL_act 531 = .ok (.iload 11, 2) := by decide +kernel
theorem dL_act_533 : decode cL_act 533 = .ok (.bipush 8, 2) := by decide +kernel
theorem dL_act_535 : decode cL_act 535 = .ok (.if_icmp .ge 42, 3) := by decide +kernel
theorem dL_act_538 : decode cL_act 538 = .ok (.iload 10, 2) := by decide +kernel
theorem dL_act_540 : decode cL_act 540 = .ok (.aload 5, 2) := by decide +kernel
theorem dL_act_542 : decode cL_act 542 = .ok (.iload 11, 2) := by decide +kernel
theorem dL_act_544 : decode cL_act 544 = .ok (.iaload, 1) := by decide +kernel
theorem dL_act_545 : decode cL_act 545 = .ok (.aload 6, 2) := by decide +kernel
theorem dL_act_547 : decode cL_act 547 = .ok (.iload 11, 2) := by decide +kernel
theorem dL_act_549 : decode cL_act 549 = .ok (.iaload, 1) := by decide +kernel
theorem dL_act_550 : decode cL_act 550 = .ok (.if_icmp .eq 7, 3) := by decide +kernel
theorem dL_act_553 : decode cL_act 553 = .ok (.iconst 1, 1) := by decide +kernel
theorem dL_act_554 : decode cL_act 554 = .ok (.goto 4, 3) := by decide +kernel
theorem dL_act_557 : decode cL_act 557 = .ok (.iconst 0, 1) := by decide +kernel
theorem dL_act_558 : decode cL_act 558 = .ok (.iadd, 1) := by decide +kernel
theorem dL_act_559 : decode cL_act 559 = .ok (.istore 10, 2) := by decide +kernel
theorem dL_act_561 : decode cL_act 561 = .ok (.aload 5, 2) := by decide +kernel
theorem dL_act_563 : decode cL_act 563 = .ok (.iload 11, 2) := by decide +kernel
theorem dL_act_565 : decode cL_act 565 = .ok (.aload 6, 2) := by decide +kernel
theorem dL_act_567 : decode cL_act 567 = .ok (.iload 11, 2) := by decide +kernel
theorem dL_act_569 : decode cL_act 569 = .ok (.iaload, 1) := by decide +kernel
theorem dL_act_570 : decode cL_act 570 = .ok (.iastore, 1) := by decide +kernel
theorem dL_act_571 : decode cL_act 571 = .ok (.iinc 11 1, 3) := by decide +kernel
theorem dL_act_574 : decode cL_act 574 = .ok (.goto (-43), 3) := by decide +kernel
theorem dL_act_577 : decode cL_act 577 = .ok (.aload_n 0, 1) := by decide +kernel
theorem dL_act_578 : decode cL_act 578 = .ok (.invokevirtual 108, 3) := by decide +kernel
theorem dL_act_581 : decode cL_act 581 = .ok (.iload 10, 2) := by decide +kernel
theorem dL_act_583 : decode cL_act 583 = .ok (.if_icmp .ne 7, 3) := by decide +kernel
theorem dL_act_586 : decode cL_act 586 = .ok (.iconst 1, 1) := by decide +kernel
theorem dL_act_587 : decode cL_act 587 = .ok (.goto 4, 3) := by decide +kernel
theorem dL_act_590 : decode cL_act 590 = .ok (.iconst 0, 1) := by decide +kernel
theorem dL_act_591 : decode cL_act 591 = .ok (.ireturn, 1) := by decide +kernel
theorem dL_act_592 : decode cL_act 592 = .ok (.bipush 8, 2) := by decide +kernel
theorem dL_act_594 : decode cL_act 594 = .ok (.newarray .int, 2) := by decide +kernel
theorem dL_act_596 : decode cL_act 596 = .ok (.astore 10, 2) := by decide +kernel
theorem dL_act_598 : decode cL_act 598 = .ok (.iconst 0, 1) := by decide +kernel
theorem dL_act_599 : decode cL_act 599 = .ok (.istore 11, 2) := by decide +kernel
theorem dL_act_601 : decode cL_act 601 = .ok (.iload 11, 2) := by decide +kernel
theorem dL_act_603 : decode cL_act 603 = .ok (.bipush 8, 2) := by decide +kernel
theorem dL_act_605 : decode cL_act 605 = .ok (.if_icmp .ge 19, 3) := by decide +kernel
theorem dL_act_608 : decode cL_act 608 = .ok (.aload 10, 2) := by decide +kernel
theorem dL_act_610 : decode cL_act 610 = .ok (.iload 11, 2) := by decide +kernel
theorem dL_act_612 : decode cL_act 612 = .ok (.aload 5, 2) := by decide +kernel
theorem dL_act_614 : decode cL_act 614 = .ok (.iload 11, 2) := by decide +kernel
theorem dL_act_616 : decode cL_act 616 = .ok (.iaload, 1) := by decide +kernel
theorem dL_act_617 : decode cL_act 617 = .ok (.iastore, 1) := by decide +kernel
theorem dL_act_618 : decode cL_act 618 = .ok (.iinc 11 1, 3) := by decide +kernel
theorem dL_act_621 : decode cL_act 621 = .ok (.goto (-20), 3) := by decide +kernel
theorem dL_act_624 : decode cL_act 624 = .ok (.aload 10, 2) := by decide +kernel
theorem dL_act_626 : decode cL_act 626 = .ok (.invokestatic 53, 3) := by decide +kernel
theorem dL_act_629 : decode cL_act 629 = .ok (.iconst 0, 1) := by decide +kernel
theorem dL_act_630 : decode cL_act 630 = .ok (.istore 11, 2) := by decide +kernel
theorem dL_act_632 : decode cL_act 632 = .ok (.iconst 0, 1) := by decide +kernel
theorem dL_act_633 : decode cL_act 633 = .ok (.istore 12, 2) := by decide +kernel
theorem dL_act_635 : decode cL_act 635 = .ok (.iload 12, 2) := by decide +kernel
theorem dL_act_637 : decode cL_act 637 = .ok (.bipush 8, 2) := by decide +kernel
theorem dL_act_639 : decode cL_act 639 = .ok (.if_icmp .ge 78, 3) := by decide +kernel
theorem dL_act_642 : decode cL_act 642 = .ok (.aload 10, 2) := by decide +kernel
theorem dL_act_644 : decode cL_act 644 = .ok (.iload 12, 2) := by decide +kernel
theorem dL_act_646 : decode cL_act 646 = .ok (.iaload, 1) := by decide +kernel
theorem dL_act_647 : decode cL_act 647 = .ok (.invokestatic 64, 3) := by decide +kernel
theorem dL_act_650 : decode cL_act 650 = .ok (.istore 13, 2) := by decide +kernel
theorem dL_act_652 : decode cL_act 652 = .ok (.iload 13, 2) := by decide +kernel
theorem dL_act_654 : decode cL_act 654 = .ok (.bipush 99, 2) := by decide +kernel
theorem dL_act_656 : decode cL_act 656 = .ok (.if_icmp .le 8, 3) := by decide +kernel
theorem dL_act_659 : decode cL_act 659 = .ok (.bipush 99, 2) := by decide +kernel
theorem dL_act_661 : decode cL_act 661 = .ok (.goto 17, 3) := by decide +kernel
theorem dL_act_664 : decode cL_act 664 = .ok (.iload 13, 2) := by decide +kernel
theorem dL_act_666 : decode cL_act 666 = .ok (.bipush (-99), 2) := by decide +kernel
theorem dL_act_668 : decode cL_act 668 = .ok (.if_icmp .ge 8, 3) := by decide +kernel
theorem dL_act_671 : decode cL_act 671 = .ok (.bipush (-99), 2) := by decide +kernel
theorem dL_act_673 : decode cL_act 673 = .ok (.goto 5, 3) := by decide +kernel
theorem dL_act_676 : decode cL_act 676 = .ok (.iload 13, 2) := by decide +kernel
theorem dL_act_678 : decode cL_act 678 = .ok (.istore 13, 2) := by decide +kernel
theorem dL_act_680 : decode cL_act 680 = .ok (.iload 11, 2) := by decide +kernel
theorem dL_act_682 : decode cL_act 682 = .ok (.iload 13, 2) := by decide +kernel
theorem dL_act_684 : decode cL_act 684 = .ok (.aload_n 3, 1) := by decide +kernel
theorem dL_act_685 : decode cL_act 685 = .ok (.iload 12, 2) := by decide +kernel
theorem dL_act_687 : decode cL_act 687 = .ok (.iaload, 1) := by decide +kernel
theorem dL_act_688 : decode cL_act 688 = .ok (.if_icmp .ne 7, 3) := by decide +kernel
theorem dL_act_691 : decode cL_act 691 = .ok (.iconst 0, 1) := by decide +kernel
theorem dL_act_692 : decode cL_act 692 = .ok (.goto 4, 3) := by decide +kernel
theorem dL_act_695 : decode cL_act 695 = .ok (.iconst 1, 1) := by decide +kernel
theorem dL_act_696 : decode cL_act 696 = .ok (.iadd, 1) := by decide +kernel
theorem dL_act_697 : decode cL_act 697 = .ok (.istore 11, 2) := by decide +kernel
theorem dL_act_699 : decode cL_act 699 = .ok (.aload_n 3, 1) := by decide +kernel
theorem dL_act_700 : decode cL_act 700 = .ok (.iload 12, 2) := by decide +kernel
theorem dL_act_702 : decode cL_act 702 = .ok (.iload 13, 2) := by decide +kernel
theorem dL_act_704 : decode cL_act 704 = .ok (.iastore, 1) := by decide +kernel
theorem dL_act_705 : decode cL_act 705 = .ok (.aload 4, 2) := by decide +kernel
theorem dL_act_707 : decode cL_act 707 = .ok (.iload 12, 2) := by decide +kernel
theorem dL_act_709 : decode cL_act 709 = .ok (.iconst 0, 1) := by decide +kernel
theorem dL_act_710 : decode cL_act 710 = .ok (.iastore, 1) := by decide +kernel
theorem dL_act_711 : decode cL_act 711 = .ok (.iinc 12 1, 3) := by decide +kernel
theorem dL_act_714 : decode cL_act 714 = .ok (.goto (-79), 3) := by decide +kernel
theorem dL_act_717 : decode cL_act 717 = .ok (.aload 7, 2) := by decide +kernel
theorem dL_act_719 : decode cL_act 719 = .ok (.iconst 0, 1) := by decide +kernel
theorem dL_act_720 : decode cL_act 720 = .ok (.dup2, 1) := by decide +kernel
theorem dL_act_721 : decode cL_act 721 = .ok (.iaload, 1) := by decide +kernel
theorem dL_act_722 : decode cL_act 722 = .ok (.iload 11, 2) := by decide +kernel
theorem dL_act_724 : decode cL_act 724 = .ok (.iadd, 1) := by decide +kernel
theorem dL_act_725 : decode cL_act 725 = .ok (.iastore, 1) := by decide +kernel
theorem dL_act_726 : decode cL_act 726 = .ok (.aload_n 0, 1) := by decide +kernel
theorem dL_act_727 : decode cL_act 727 = .ok (.invokevirtual 111, 3) := by decide +kernel
theorem dL_act_730 : decode cL_act 730 = .ok (.iload 11, 2) := by decide +kernel
theorem dL_act_732 : decode cL_act 732 = .ok (.if_icmp .ne 7, 3) := by decide +kernel
theorem dL_act_735 : decode cL_act 735 = .ok (.iconst 1, 1) := by decide +kernel
theorem dL_act_736 : decode cL_act 736 = .ok (.goto 4, 3) := by decide +kernel
theorem dL_act_739 : decode cL_act 739 = .ok (.iconst 0, 1) := by decide +kernel
theorem dL_act_740 : decode cL_act 740 = .ok (.ireturn, 1) := by decide +kernel
set_option maxRecDepth 20000 in
theorem ggL_law_X3_init : GoodIn wsL_law wsX3_init := goodIn_r _ [7, 8, 9, 10, 11, 12, 13, 14, 15, 16, 17, 18, 19, 20, 21, 22, 23, 24, 3, 25, 26, 27, 28, 29, 30, 31, 32, 33, 34, 35, 36, 37, 38, 39, 40, 41, 42, 43, 44, 45, 344, 345, 346, 347, 338, 339, 340, 341, 342, 343, 348, 349, 350, 351, 352] (by decide +kernel) (by decide +kernel)
set_option maxRecDepth 20000 in
theorem gL_law_X3_init : GoodIn wsL_law (wsX3_init) := ggL_law_X3_init
set_option maxRecDepth 20000 in
theorem ggL_law_L_areWheels : GoodIn wsL_law wsL_areWheels := goodIn_ca (goodIn_ca (goodIn_r _ [49, 3, 50, 51, 48, 52, 53, 54, 55, 56, 57, 58, 2, 59, 60, 61, 62, 63, 64, 65, 66, 67, 68, 69, 70, 71, 72, 73, 14, 74, 13, 75, 76, 31, 77, 78, 79, 30, 80, 81, 82, 83, 84, 85, 86, 87, 88, 89, 90, 91, 92, 93, 94, 95, 96, 97, 98, 99, 100, 101, 102, 103, 104, 105, 106, 107, 108, 109, 20, 110, 111, 112, 29, 113, 114, 115, 116, 117, 118, 119, 120, 121, 122, 123, 124, 125, 126, 127, 128, 129, 130, 131, 132, 133, 134, 135, 136, 137, 138, 139, 140, 141, 142, 143, 144, 145, 146, 147, 148, 149, 150, 151, 152, 153, 154, 155, 156, 157, 158, 159, 160, 161, 162, 163, 164, 338, 339, 340, 341, 342, 343, 344, 345, 346, 347, 348, 349, 350] (by decide +kernel) (by decide +kernel)) (goodIn_sub (fun _ h => List.mem_append_left _ (List.mem_append_left _ (List.mem_append_right _ h))) (by decide +kernel))) (goodIn_sub (fun _ h => List.mem_append_left _ (List.mem_append_right _ h)) (by decide +kernel))
set_option maxRecDepth 20000 in
theorem gL_law_L_areWheels : GoodIn wsL_law (va_wsS RL 115 yL_areWheels wsL_areWheels) := goodIn_app (goodIn_of _ (by decide +kernel)) ggL_law_L_areWheels
set_option maxRecDepth 20000 in
theorem ggL_law_L_arePoints : GoodIn wsL_law wsL_arePoints := goodIn_ca (goodIn_ca (goodIn_r _ [167, 3, 168, 169, 170, 2, 171, 60, 61, 62, 63, 64, 65, 66, 67, 68, 69, 172, 173, 174, 175, 14, 25, 121, 13, 122, 123, 124, 125, 126, 127, 29, 128, 74, 75, 76, 31, 80, 81, 82, 83, 84, 85, 86, 87, 88, 176, 177, 178, 179, 180, 181, 182, 183, 184, 185, 186, 187, 143, 144, 145, 30, 146, 151, 152, 153, 188, 189, 48, 190, 50, 51, 52, 102, 103, 104, 105, 106, 107, 108, 109, 20, 110, 111, 112, 113, 114, 115, 116, 117, 118, 119, 120, 129, 130, 131, 132, 133, 134, 135, 136, 137, 138, 139, 140, 141, 142, 147, 148, 149, 150, 154, 155, 156, 157, 191, 192, 193, 194, 195, 196, 197, 198, 96, 158, 159, 160, 338, 339, 340, 341, 342, 343, 344, 345, 346, 347, 348, 349, 350] (by decide +kernel) (by decide +kernel)) (goodIn_sub (fun _ h => List.mem_append_left _ (List.mem_append_left _ (List.mem_append_right _ h))) (by decide +kernel))) (goodIn_sub (fun _ h => List.mem_append_left _ (List.mem_append_right _ h)) (by decide +kernel))
set_option maxRecDepth 20000 in
theorem gL_law_L_arePoints : GoodIn wsL_law (va_wsS RL 119 yL_arePoints wsL_arePoints) := goodIn_app (goodIn_of _ (by decide +kernel)) ggL_law_L_arePoints
set_option maxRecDepth 20000 in
theorem ggL_law_L_isAhead : GoodIn wsL_law wsL_isAhead := goodIn_ca (goodIn_ca (goodIn_r _ [201, 202, 203, 204, 205, 206, 2, 207, 60, 61, 62, 63, 14, 64, 65, 66, 67, 68, 69, 121, 13, 122, 123, 124, 125, 126, 127, 29, 128, 74, 75, 76, 31, 80, 81, 82, 83, 84, 85, 86, 87, 88, 188, 189, 48, 190, 208, 209, 210, 211, 212, 213, 214, 215, 216, 25, 217, 218, 219, 220, 221, 222, 223, 224, 225, 226, 227, 228, 229, 230, 231, 232, 233, 234, 235, 236, 237, 238, 239, 140, 141, 119, 142, 240, 241, 242, 243, 244, 245, 246, 247, 338, 339, 340, 341, 342, 343, 344, 345, 346, 347] (by decide +kernel) (by decide +kernel)) (goodIn_sub (fun _ h => List.mem_append_left _ (List.mem_append_left _ (List.mem_append_right _ h))) (by decide +kernel))) (goodIn_sub (fun _ h => List.mem_append_left _ (List.mem_append_right _ h)) (by decide +kernel))
set_option maxRecDepth 20000 in
theorem gL_law_L_isAhead : GoodIn wsL_law (va_wsS RL 123 yL_isAhead wsL_isAhead) := goodIn_app (goodIn_of _ (by decide +kernel)) ggL_law_L_isAhead
set_option maxRecDepth 20000 in
theorem ggL_law_L_undo : GoodIn wsL_law wsL_undo := goodIn_ca (goodIn_r _ [250, 251, 252, 253, 254, 2, 255, 256, 257, 20, 14, 258, 19, 259, 260, 38, 39, 37, 261, 13, 262, 263, 29, 264, 265, 266, 267, 30, 31, 32, 338, 339, 340, 341, 342, 343, 348, 349, 350, 344, 345, 346, 347] (by decide +kernel) (by decide +kernel)) (goodIn_sub (fun _ h => List.mem_append_right _ h) (by decide +kernel))
set_option maxRecDepth 20000 in
theorem gL_law_L_undo : GoodIn wsL_law (va_wsS RL 127 yL_undo wsL_undo) := goodIn_app (goodIn_of _ (by decide +kernel)) ggL_law_L_undo
set_option maxRecDepth 20000 in
theorem ggL_law_L_cell : GoodIn wsL_law wsL_cell := goodIn_r _ [270, 271] (by decide +kernel) (by decide +kernel)
set_option maxRecDepth 20000 in
theorem gL_law_L_cell : GoodIn wsL_law (va_wsS RL 130 yL_cell wsL_cell) := goodIn_app (goodIn_of _ (by decide +kernel)) ggL_law_L_cell
set_option maxRecDepth 20000 in
theorem ggL_law_L_act : GoodIn wsL_law wsL_act := goodIn_ca (goodIn_ca (goodIn_r _ [274, 3, 275, 276, 48, 277, 278, 279, 280, 281, 247, 243, 282, 283, 284, 2, 285, 60, 61, 62, 63, 20, 14, 64, 65, 66, 67, 68, 69, 286, 19, 287, 288, 37, 38, 39, 289, 134, 119, 135, 261, 13, 262, 263, 29, 264, 265, 266, 267, 30, 31, 32, 290, 291, 292, 293, 294, 295, 296, 74, 75, 76, 53, 54, 55, 297, 298, 299, 300, 301, 302, 303, 96, 80, 81, 82, 83, 84, 85, 86, 87, 88, 158, 159, 160, 188, 189, 190, 304, 305, 306, 307, 308, 309, 310, 140, 141, 142, 311, 312, 313, 314, 315, 316, 317, 318, 319, 320, 321, 121, 122, 123, 124, 125, 126, 127, 128, 50, 51, 52, 97, 98, 99, 100, 101, 322, 323, 324, 325, 133, 117, 118, 120, 77, 78, 79, 89, 90, 91, 92, 338, 339, 340, 341, 342, 343, 344, 345, 346, 347, 348, 349, 350] (by decide +kernel) (by decide +kernel)) (goodIn_sub (fun _ h => List.mem_append_left _ (List.mem_append_left _ (List.mem_append_right _ h))) (by decide +kernel))) (goodIn_sub (fun _ h => List.mem_append_left _ (List.mem_append_right _ h)) (by decide +kernel))
set_option maxRecDepth 20000 in
theorem gL_law_L_act : GoodIn wsL_law (va_wsS RL 134 yL_act wsL_act) := goodIn_app (goodIn_of _ (by decide +kernel)) ggL_law_L_act
set_option maxRecDepth 20000 in
theorem ggL_law_L_draw : GoodIn wsL_law wsL_draw := goodIn_r _ [328, 50, 51, 48, 52] (by decide +kernel) (by decide +kernel)
set_option maxRecDepth 20000 in
theorem gL_law_L_draw : GoodIn wsL_law (va_wsS RL 138 yL_draw wsL_draw) := goodIn_app (goodIn_of _ (by decide +kernel)) ggL_law_L_draw
set_option maxRecDepth 20000 in
theorem ggL_law_X3_count : GoodIn wsL_law wsX3_count := goodIn_ca (goodIn_r _ [105, 62, 63, 67, 68, 2, 69, 106, 107, 108, 109, 14, 20, 110, 13, 111, 112, 29, 82, 83, 84, 85, 86, 87, 88, 113, 114, 115, 116, 117, 118, 119, 120, 121, 122, 123, 124, 125, 126, 127, 128, 74, 75, 76, 31, 80, 81, 129, 130, 131, 132, 133, 134, 135, 136, 137, 138, 139, 140, 141, 142, 143, 144, 145, 30, 146, 147, 148, 149, 150, 151, 152, 153, 154, 155, 156, 157, 338, 339, 340, 341, 342, 343, 344, 345, 346, 347, 348, 349, 350] (by decide +kernel) (by decide +kernel)) (goodIn_sub (fun _ h => List.mem_append_left _ (List.mem_append_right _ h)) (by decide +kernel))
set_option maxRecDepth 20000 in
theorem gL_law_X3_count : GoodIn wsL_law (wsV RL 67 RX3 yX3_count wsX3_count) := goodIn_app (goodIn_of _ (by decide +kernel)) ggL_law_X3_count
set_option maxRecDepth 20000 in
theorem ggL_law_L_low : GoodIn wsL_law wsL_low := goodIn_r _ [277, 278] (by decide +kernel) (by decide +kernel)
set_option maxRecDepth 20000 in
theorem gL_law_L_low : GoodIn wsL_law (va_wsS RL 94 yL_low wsL_low) := goodIn_app (goodIn_of _ (by decide +kernel)) ggL_law_L_low
set_option maxRecDepth 20000 in
theorem ggL_law_L_wheelOf : GoodIn wsL_law wsL_wheelOf := goodIn_ca (goodIn_ca (goodIn_r _ [331, 247, 243, 56, 57, 58, 2, 59, 60, 61, 62, 63, 64, 65, 66, 67, 68, 69, 70, 71, 72, 73, 14, 74, 13, 75, 76, 31, 77, 78, 79, 30, 80, 81, 82, 83, 84, 85, 86, 87, 88, 89, 90, 91, 92, 93, 94, 95, 96, 338, 339, 340, 341, 342, 343, 344, 345, 346, 347] (by decide +kernel) (by decide +kernel)) (goodIn_sub (fun _ h => List.mem_append_left _ (List.mem_append_left _ (List.mem_append_right _ h))) (by decide +kernel))) (goodIn_sub (fun _ h => List.mem_append_left _ (List.mem_append_right _ h)) (by decide +kernel))
set_option maxRecDepth 20000 in
theorem gL_law_L_wheelOf : GoodIn wsL_law (va_wsS RL 143 yL_wheelOf wsL_wheelOf) := goodIn_app (goodIn_of _ (by decide +kernel)) ggL_law_L_wheelOf
set_option maxRecDepth 20000 in
theorem ggL_law_L_trace : GoodIn wsL_law wsL_trace := goodIn_ca (goodIn_ca (goodIn_r _ [334, 247, 243, 168, 169, 170, 2, 171, 60, 61, 62, 63, 64, 65, 66, 67, 68, 69, 172, 173, 174, 175, 14, 25, 121, 13, 122, 123, 124, 125, 126, 127, 29, 128, 74, 75, 76, 31, 80, 81, 82, 83, 84, 85, 86, 87, 88, 176, 177, 178, 179, 338, 339, 340, 341, 342, 343, 344, 345, 346, 347] (by decide +kernel) (by decide +kernel)) (goodIn_sub (fun _ h => List.mem_append_left _ (List.mem_append_left _ (List.mem_append_right _ h))) (by decide +kernel))) (goodIn_sub (fun _ h => List.mem_append_left _ (List.mem_append_right _ h)) (by decide +kernel))
set_option maxRecDepth 20000 in
theorem gL_law_L_trace : GoodIn wsL_law (va_wsS RL 145 yL_trace wsL_trace) := goodIn_app (goodIn_of _ (by decide +kernel)) ggL_law_L_trace
set_option maxRecDepth 20000 in
theorem ggL_law_L_pointOf : GoodIn wsL_law wsL_pointOf := goodIn_ca (goodIn_ca (goodIn_r _ [337, 247, 243, 180, 181, 182, 2, 183, 60, 61, 62, 63, 64, 65, 66, 67, 68, 69, 184, 185, 186, 187, 14, 143, 13, 144, 145, 30, 146, 121, 122, 123, 124, 125, 126, 127, 29, 128, 74, 75, 76, 31, 80, 81, 82, 83, 84, 85, 86, 87, 88, 151, 152, 153, 338, 339, 340, 341, 342, 343, 344, 345, 346, 347] (by decide +kernel) (by decide +kernel)) (goodIn_sub (fun _ h => List.mem_append_left _ (List.mem_append_left _ (List.mem_append_right _ h))) (by decide +kernel))) (goodIn_sub (fun _ h => List.mem_append_left _ (List.mem_append_right _ h)) (by decide +kernel))
set_option maxRecDepth 20000 in
theorem gL_law_L_pointOf : GoodIn wsL_law (va_wsS RL 147 yL_pointOf wsL_pointOf) := goodIn_app (goodIn_of _ (by decide +kernel)) ggL_law_L_pointOf
theorem dL_law_0 : decode cL_law 0 = .ok (.new 10, 3) := by decide +kernel
theorem dL_law_3 : decode cL_law 3 = .ok (.dup, 1) := by decide +kernel
theorem dL_law_4 : decode cL_law 4 = .ok (.invokespecial 114, 3) := by decide +kernel
theorem dL_law_7 : decode cL_law 7 = .ok (.astore_n 1, 1) := by decide +kernel
theorem dL_law_8 : decode cL_law 8 = .ok (.bipush 8, 2) := by decide +kernel
theorem dL_law_10 : decode cL_law 10 = .ok (.newarray .int, 2) := by decide +kernel
theorem dL_law_12 : decode cL_law 12 = .ok (.astore_n 2, 1) := by decide +kernel
theorem dL_law_13 : decode cL_law 13 = .ok (.bipush 8, 2) := by decide +kernel
theorem dL_law_15 : decode cL_law 15 = .ok (.newarray .int, 2) := by decide +kernel
theorem dL_law_17 : decode cL_law 17 = .ok (.astore_n 3, 1) := by decide +kernel
theorem dL_law_18 : decode cL_law 18 = .ok (.bipush 8, 2) := by decide +kernel
theorem dL_law_20 : decode cL_law 20 = .ok (.newarray .int, 2) := by decide +kernel
theorem dL_law_22 : decode cL_law 22 = .ok (.astore 4, 2) := by decide +kernel
theorem dL_law_24 : decode cL_law 24 = .ok (.bipush 8, 2) := by decide +kernel
theorem dL_law_26 : decode cL_law 26 = .ok (.newarray .int, 2) := by decide +kernel
theorem dL_law_28 : decode cL_law 28 = .ok (.astore 5, 2) := by decide +kernel
theorem dL_law_30 : decode cL_law 30 = .ok (.iconst 1, 1) := by decide +kernel
theorem dL_law_31 : decode cL_law 31 = .ok (.newarray .int, 2) := by decide +kernel
theorem dL_law_33 : decode cL_law 33 = .ok (.astore 6, 2) := by decide +kernel
theorem dL_law_35 : decode cL_law 35 = .ok (.aload_n 1, 1) := by decide +kernel
theorem dL_law_36 : decode cL_law 36 = .ok (.aload_n 2, 1) := by decide +kernel
theorem dL_law_37 : decode cL_law 37 = .ok (.aload_n 3, 1) := by decide +kernel
theorem dL_law_38 : decode cL_law 38 = .ok (.aload 4, 2) := by decide +kernel
theorem dL_law_40 : decode cL_law 40 = .ok (.invokestatic 115, 3) := by decide +kernel
theorem dL_law_43 : decode cL_law 43 = .ok (.ifCond .eq 39, 3) := by decide +kernel
theorem dL_law_46 : decode cL_law 46 = .ok (.aload_n 1, 1) := by decide +kernel
theorem dL_law_47 : decode cL_law 47 = .ok (.aload_n 2, 1) := by decide +kernel
theorem dL_law_48 : decode cL_law 48 = .ok (.aload_n 3, 1) := by decide +kernel
theorem dL_law_49 : decode cL_law 49 = .ok (.aload 4, 2) := by decide +kernel
theorem dL_law_51 : decode cL_law 51 = .ok (.aload 5, 2) := by decide +kernel
theorem dL_law_53 : decode cL_law 53 = .ok (.invokestatic 119, 3) := by decide +kernel
theorem dL_law_56 : decode cL_law 56 = .ok (.ifCond .eq 26, 3) := by decide +kernel
theorem dL_law_59 : decode cL_law 59 = .ok (.aload_n 1, 1) := by decide +kernel
theorem dL_law_60 : decode cL_law 60 = .ok (.iconst 0, 1) := by decide +kernel
theorem dL_law_61 : decode cL_law 61 = .ok (.aload_n 2, 1) := by decide +kernel
theorem dL_law_62 : decode cL_law 62 = .ok (.aload_n 3, 1) := by decide +kernel
theorem dL_law_63 : decode cL_law 63 = .ok (.aload 4, 2) := by decide +kernel
theorem dL_law_65 : decode cL_law 65 = .ok (.aload 5, 2) := by decide +kernel
theorem dL_law_67 : decode cL_law 67 = .ok (.invokestatic 123, 3) := by decide +kernel
theorem dL_law_70 : decode cL_law 70 = .ok (.ifCond .eq 12, 3) := by decide +kernel
theorem dL_law_73 : decode cL_law 73 = .ok (.aload_n 1, 1) := by decide +kernel
theorem dL_law_74 : decode cL_law 74 = .ok (.invokestatic 127, 3) := by decide +kernel
theorem dL_law_77 : decode cL_law 77 = .ok (.bipush (-33), 2) := by decide +kernel
theorem dL_law_79 : decode cL_law 79 = .ok (.if_icmp .eq 5, 3) := by decide +kernel
theorem dL_law_82 : decode cL_law 82 = .ok (.iconst 0, 1) := by decide +kernel
theorem dL_law_83 : decode cL_law 83 = .ok (.ireturn, 1) := by decide +kernel
theorem dL_law_84 : decode cL_law 84 = .ok (.iconst 0, 1) := by decide +kernel
theorem dL_law_85 : decode cL_law 85 = .ok (.istore 7, 2) := by decide +kernel
theorem dL_law_87 : decode cL_law 87 = .ok (.iload 7, 2) := by decide +kernel
theorem dL_law_89 : decode cL_law 89 = .ok (.bipush 60, 2) := by decide +kernel
theorem dL_law_91 : decode cL_law 91 = .ok (.if_icmp .ge 156, 3) := by decide +kernel
theorem dL_law_94 : decode cL_law 94 = .ok (.aload_n 0, 1) := by decide +kernel
theorem dL_law_95 : decode cL_law 95 = .ok (.iconst 2, 1) := by decide +kernel
theorem dL_law_96 : decode cL_law 96 = .ok (.iload 7, 2) := by decide +kernel
theorem dL_law_98 : decode cL_law 98 = .ok (.imul, 1) := by decide +kernel
theorem dL_law_99 : decode cL_law 99 = .ok (.invokestatic 130, 3) := by decide +kernel
theorem dL_law_102 : decode cL_law 102 = .ok (.istore 8, 2) := by decide +kernel
theorem dL_law_104 : decode cL_law 104 = .ok (.aload_n 0, 1) := by decide +kernel
theorem dL_law_105 : decode cL_law 105 = .ok (.iconst 2, 1) := by decide +kernel
theorem dL_law_106 : decode cL_law 106 = .ok (.iload 7, 2) := by decide +kernel
theorem dL_law_108 : decode cL_law 108 = .ok (.imul, 1) := by decide +kernel
theorem dL_law_109 : decode cL_law 109 = .ok (.iconst 1, 1) := by decide +kernel
theorem dL_law_110 : decode cL_law 110 = .ok (.iadd, 1) := by decide +kernel
theorem dL_law_111 : decode cL_law 111 = .ok (.invokestatic 130, 3) := by decide +kernel
theorem dL_law_114 : decode cL_law 114 = .ok (.istore 9, 2) := by decide +kernel
theorem dL_law_116 : decode cL_law 116 = .ok (.aload_n 1, 1) := by decide +kernel
theorem dL_law_117 : decode cL_law 117 = .ok (.iload 7, 2) := by decide +kernel
theorem dL_law_119 : decode cL_law 119 = .ok (.iconst 5, 1) := by decide +kernel
theorem dL_law_120 : decode cL_law 120 = .ok (.if_icmp .ge 7, 3) := by decide +kernel
theorem dL_law_123 : decode cL_law 123 = .ok (.iconst 0, 1) := by decide +kernel
theorem dL_law_124 : decode cL_law 124 = .ok (.goto 5, 3) := by decide +kernel
theorem dL_law_127 : decode cL_law 127 = .ok (.iload 8, 2) := by decide +kernel
theorem dL_law_129 : decode cL_law 129 = .ok (.iload 9, 2) := by decide +kernel
theorem dL_law_131 : decode cL_law 131 = .ok (.aload_n 2, 1) := by decide +kernel
theorem dL_law_132 : decode cL_law 132 = .ok (.aload_n 3, 1) := by decide +kernel
theorem dL_law_133 : decode cL_law 133 = .ok (.aload 4, 2) := by decide +kernel
theorem dL_law_135 : decode cL_law 135 = .ok (.aload 5, 2) := by decide +kernel
theorem dL_law_137 : decode cL_law 137 = .ok (.aload 6, 2) := by decide +kernel
theorem dL_law_139 : decode cL_law 139 = .ok (.invokestatic 134, 3) := by decide +kernel
theorem dL_law_142 : decode cL_law 142 = .ok (.istore 10, 2) := by decide +kernel
theorem dL_law_144 : decode cL_law 144 = .ok (.aload_n 2, 1) := by decide +kernel
theorem dL_law_145 : decode cL_law 145 = .ok (.aload_n 3, 1) := by decide +kernel
theorem dL_law_146 : decode cL_law 146 = .ok (.aload 5, 2) := by decide +kernel
theorem dL_law_148 : decode cL_law 148 = .ok (.invokestatic 138, 3) := by decide +kernel
theorem dL_law_151 : decode cL_law 151 = .ok (.iload 10, 2) := by decide +kernel
theorem dL_law_153 : decode cL_law 153 = .ok (.ifCond .eq 86, 3) := by decide +kernel
theorem dL_law_156 : decode cL_law 156 = .ok (.aload_n 1, 1) := by decide +kernel
theorem dL_law_157 : decode cL_law 157 = .ok (.aload_n 2, 1) := by decide +kernel
theorem dL_law_158 : decode cL_law 158 = .ok (.aload_n 3, 1) := by decide +kernel
theorem dL_law_159 : decode cL_law 159 = .ok (.aload 4, 2) := by decide +kernel
theorem dL_law_161 : decode cL_law 161 = .ok (.invokestatic 115, 3) := by decide +kernel
theorem dL_law_164 : decode cL_law 164 = .ok (.ifCond .eq 75, 3) := by decide +kernel
theorem dL_law_167 : decode cL_law 167 = .ok (.aload_n 1, 1) := by decide +kernel
theorem dL_law_168 : decode cL_law 168 = .ok (.aload_n 2, 1) := by decide +kernel
theorem dL_law_169 : decode cL_law 169 = .ok (.aload_n 3, 1) := by decide +kernel
theorem dL_law_170 : decode cL_law 170 = .ok (.aload 4, 2) := by decide +kernel
theorem dL_law_172 : decode cL_law 172 = .ok (.aload 5, 2) := by decide +kernel
theorem dL_law_174 : decode cL_law 174 = .ok (.invokestatic 119, 3) := by decide +kernel
theorem dL_law_177 : decode cL_law 177 = .ok (.ifCond .eq 62, 3) := by decide +kernel
theorem dL_law_180 : decode cL_law 180 = .ok (.aload_n 1, 1) := by decide +kernel
theorem dL_law_181 : decode cL_law 181 = .ok (.bipush 7, 2) := by decide +kernel
theorem dL_law_183 : decode cL_law 183 = .ok (.invokevirtual 67, 3) := by decide +kernel
theorem dL_law_186 : decode cL_law 186 = .ok (.aload 6, 2) := by decide +kernel
theorem dL_law_188 : decode cL_law 188 = .ok (.iconst 0, 1) := by decide +kernel
theorem dL_law_189 : decode cL_law 189 = .ok (.iaload, 1) := by decide +kernel
theorem dL_law_190 : decode cL_law 190 = .ok (.if_icmp .ne 49, 3) := by decide +kernel
theorem dL_law_193 : decode cL_law 193 = .ok (.iload 7, 2) := by decide +kernel
theorem dL_law_195 : decode cL_law 195 = .ok (.iconst 4, 1) := by decide +kernel
theorem dL_law_196 : decode cL_law 196 = .ok (.irem, 1) := by decide +kernel
theorem dL_law_197 : decode cL_law 197 = .ok (.iconst 3, 1) := by decide +kernel
theorem dL_law_198 : decode cL_law 198 = .ok (.if_icmp .ne 43, 3) := by decide +kernel
theorem dL_law_201 : decode cL_law 201 = .ok (.aload_n 1, 1) := by decide +kernel
theorem dL_law_202 : decode cL_law 202 = .ok (.iload 8, 2) := by decide +kernel
theorem dL_law_204 : decode cL_law 204 = .ok (.iconst 4, 1) := by decide +kernel
theorem dL_law_205 : decode cL_law 205 = .ok (.ishr, 1) := by decide +kernel
theorem dL_law_206 : decode cL_law 206 = .ok (.iload 8, 2) := by decide +kernel
theorem dL_law_208 : decode cL_law 208 = .ok (.bipush 20, 2) := by decide +kernel
theorem dL_law_210 : decode cL_law 210 = .ok (.ishr, 1) := by decide +kernel
theorem dL_law_211 : decode cL_law 211 = .ok (.iconst 1, 1) := by decide +kernel
theorem dL_law_212 : decode cL_law 212 = .ok (.iand, 1) := by decide +kernel
theorem dL_law_213 : decode cL_law 213 = .ok (.ifCond .ne 9, 3) := by decide +kernel
theorem dL_law_216 : decode cL_law 216 = .ok (.sipush 4000, 3) := by decide +kernel
theorem dL_law_219 : decode cL_law 219 = .ok (.goto 5, 3) := by decide +kernel
theorem dL_law_222 : decode cL_law 222 = .ok (.ldc 142, 2) := by decide +kernel
theorem dL_law_224 : decode cL_law 224 = .ok (.invokestatic 94, 3) := by decide +kernel
theorem dL_law_227 : decode cL_law 227 = .ok (.aload_n 2, 1) := by decide +kernel
theorem dL_law_228 : decode cL_law 228 = .ok (.aload_n 3, 1) := by decide +kernel
theorem dL_law_229 : decode cL_law 229 = .ok (.aload 4, 2) := by decide +kernel
theorem dL_law_231 : decode cL_law 231 = .ok (.aload 5, 2) := by decide +kernel
theorem dL_law_233 : decode cL_law 233 = .ok (.invokestatic 123, 3) := by decide +kernel
theorem dL_law_236 : decode cL_law 236 = .ok (.ifCond .ne 5, 3) := by decide +kernel
theorem dL_law_239 : decode cL_law 239 = .ok (.iconst 0, 1) := by decide +kernel
theorem dL_law_240 : decode cL_law 240 = .ok (.ireturn, 1) := by decide +kernel
theorem dL_law_241 : decode cL_law 241 = .ok (.iinc 7 1, 3) := by decide +kernel
theorem dL_law_244 : decode cL_law 244 = .ok (.goto (-157), 3) := by decide +kernel
theorem dL_law_247 : decode cL_law 247 = .ok (.aload_n 1, 1) := by decide +kernel
theorem dL_law_248 : decode cL_law 248 = .ok (.bipush 8, 2) := by decide +kernel
theorem dL_law_250 : decode cL_law 250 = .ok (.iconst 4, 1) := by decide +kernel
theorem dL_law_251 : decode cL_law 251 = .ok (.invokestatic 143, 3) := by decide +kernel
theorem dL_law_254 : decode cL_law 254 = .ok (.bipush (-31), 2) := by decide +kernel
theorem dL_law_256 : decode cL_law 256 = .ok (.if_icmp .ne 63, 3) := by decide +kernel
theorem dL_law_259 : decode cL_law 259 = .ok (.aload_n 1, 1) := by decide +kernel
theorem dL_law_260 : decode cL_law 260 = .ok (.iconst 0, 1) := by decide +kernel
theorem dL_law_261 : decode cL_law 261 = .ok (.iconst 4, 1) := by decide +kernel
theorem dL_law_262 : decode cL_law 262 = .ok (.invokestatic 143, 3) := by decide +kernel
theorem dL_law_265 : decode cL_law 265 = .ok (.bipush (-32), 2) := by decide +kernel
theorem dL_law_267 : decode cL_law 267 = .ok (.if_icmp .ne 52, 3) := by decide +kernel
theorem dL_law_270 : decode cL_law 270 = .ok (.aload_n 1, 1) := by decide +kernel
theorem dL_law_271 : decode cL_law 271 = .ok (.bipush 8, 2) := by decide +kernel
theorem dL_law_273 : decode cL_law 273 = .ok (.iconst 2, 1) := by decide +kernel
theorem dL_law_274 : decode cL_law 274 = .ok (.invokestatic 145, 3) := by decide +kernel
theorem dL_law_277 : decode cL_law 277 = .ok (.bipush (-31), 2) := by decide +kernel
theorem dL_law_279 : decode cL_law 279 = .ok (.if_icmp .ne 40, 3) := by decide +kernel
theorem dL_law_282 : decode cL_law 282 = .ok (.aload_n 1, 1) := by decide +kernel
theorem dL_law_283 : decode cL_law 283 = .ok (.iconst 0, 1) := by decide +kernel
theorem dL_law_284 : decode cL_law 284 = .ok (.iconst 2, 1) := by decide +kernel
theorem dL_law_285 : decode cL_law 285 = .ok (.invokestatic 145, 3) := by decide +kernel
theorem dL_law_288 : decode cL_law 288 = .ok (.bipush (-32), 2) := by decide +kernel
theorem dL_law_290 : decode cL_law 290 = .ok (.if_icmp .ne 29, 3) := by decide +kernel
theorem dL_law_293 : decode cL_law 293 = .ok (.aload_n 1, 1) := by decide +kernel
theorem dL_law_294 : decode cL_law 294 = .ok (.iconst (-1), 1) := by decide +kernel
theorem dL_law_295 : decode cL_law 295 = .ok (.iconst 3, 1) := by decide +kernel
theorem dL_law_296 : decode cL_law 296 = .ok (.invokestatic 147, 3) := by decide +kernel
theorem dL_law_299 : decode cL_law 299 = .ok (.bipush (-31), 2) := by decide +kernel
theorem dL_law_301 : decode cL_law 301 = .ok (.if_icmp .ne 18, 3) := by decide +kernel
theorem dL_law_304 : decode cL_law 304 = .ok (.aload_n 1, 1) := by decide +kernel
theorem dL_law_305 : decode cL_law 305 = .ok (.iconst 0, 1) := by decide +kernel
theorem dL_law_306 : decode cL_law 306 = .ok (.iconst 3, 1) := by decide +kernel
theorem dL_law_307 : decode cL_law 307 = .ok (.invokestatic 147, 3) := by decide +kernel
theorem dL_law_310 : decode cL_law 310 = .ok (.bipush (-32), 2) := by decide +kernel
theorem dL_law_312 : decode cL_law 312 = .ok (.if_icmp .ne 7, 3) := by decide +kernel
theorem dL_law_315 : decode cL_law 315 = .ok (.iconst 1, 1) := by decide +kernel
theorem dL_law_316 : decode cL_law 316 = .ok (.goto 4, 3) := by decide +kernel
theorem dL_law_319 : decode cL_law 319 = .ok (.iconst 0, 1) := by decide +kernel
theorem dL_law_320 : decode cL_law 320 = .ok (.ireturn, 1) := by decide +kernel

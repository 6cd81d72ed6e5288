set_option maxRecDepth 20000 in
theorem ggL_insert_X3_insert : GoodIn wsL_insert wsX3_insert := goodIn_ca (goodIn_ca (goodIn_ca (goodIn_r _ [8, 9, 10, 11, 12, 13, 14, 15, 16, 17, 18, 19, 7, 20, 21, 22, 23, 24, 25, 26, 27, 28, 29, 30, 31, 32, 33, 34, 35, 36, 37, 38, 39, 40, 41, 42, 43, 44, 45, 46, 47, 48, 49, 50, 51, 52, 53, 54, 55, 56, 57, 58, 59, 60, 61, 62, 63, 64, 65, 66, 67, 68, 69, 70, 71, 72, 73, 74, 75, 76, 77, 78, 79, 80, 81, 82, 83] (by decide +kernel) (by decide +kernel)) (goodIn_sub (fun _ h => List.mem_cons_of_mem _ (List.mem_append_left _ (List.mem_append_left _ (List.mem_append_right _ h)))) (by decide +kernel))) (goodIn_sub (fun _ h => List.mem_cons_of_mem _ (List.mem_append_left _ (List.mem_append_right _ h))) (by decide +kernel))) (goodIn_sub (fun _ h => List.mem_cons_of_mem _ (List.mem_append_right _ h)) (by decide +kernel))
set_option maxRecDepth 20000 in
theorem gL_insert_X3_insert : GoodIn wsL_insert (wsV RL 7 RX3 yX3_insert wsX3_insert) := goodIn_app (goodIn_of _ (by decide +kernel)) ggL_insert_X3_insert
theorem dL_insert_0 : decode cL_insert 0 = .ok (.aload_n 3, 1) := by decide +kernel
theorem dL_insert_1 : decode cL_insert 1 = .ok (.iconst 0, 1) := by decide +kernel
theorem dL_insert_2 : decode cL_insert 2 = .ok (.aload_n 0, 1) := by decide +kernel
theorem dL_insert_3 : decode cL_insert 3 = .ok (.iload_n 1, 1) := by decide +kernel
theorem dL_insert_4 : decode cL_insert 4 = .ok (.iload_n 2, 1) := by decide +kernel
theorem dL_insert_5 : decode cL_insert 5 = .ok (.invokevirtual 7, 3) := by decide +kernel
theorem dL_insert_8 : decode cL_insert 8 = .ok (.i2l, 1) := by decide +kernel
theorem dL_insert_9 : decode cL_insert 9 = .ok (.lastore, 1) := by decide +kernel
theorem dL_insert_10 : decode cL_insert 10 = .ok (.goto 15, 3) := by decide +kernel
theorem dL_insert_13 : decode cL_insert 13 = .ok (.astore 4, 2) := by decide +kernel
theorem dL_insert_15 : decode cL_insert 15 = .ok (.iconst 1, 1) := by decide +kernel
theorem dL_insert_16 : decode cL_insert 16 = .ok (.ireturn, 1) := by decide +kernel
theorem dL_insert_17 : decode cL_insert 17 = .ok (.astore 4, 2) := by decide +kernel
theorem dL_insert_19 : decode cL_insert 19 = .ok (.iconst 2, 1) := by decide +kernel
theorem dL_insert_20 : decode cL_insert 20 = .ok (.ireturn, 1) := by decide +kernel
theorem dL_insert_21 : decode cL_insert 21 = .ok (.astore 4, 2) := by decide +kernel
theorem dL_insert_23 : decode cL_insert 23 = .ok (.iconst 3, 1) := by decide +kernel
theorem dL_insert_24 : decode cL_insert 24 = .ok (.ireturn, 1) := by decide +kernel
theorem dL_insert_25 : decode cL_insert 25 = .ok (.iconst 0, 1) := by decide +kernel
theorem dL_insert_26 : decode cL_insert 26 = .ok (.ireturn, 1) := by decide +kernel
set_option maxRecDepth 20000 in
theorem ggL_delete_X3_delete : GoodIn wsL_delete wsX3_delete := goodIn_ca (goodIn_ca (goodIn_r _ [7, 8, 9, 10, 11, 12, 13, 14, 15, 16, 17, 18, 6, 19, 20, 21, 22, 23, 24, 25, 26, 27, 28, 29, 30, 31, 32, 33, 34, 35, 36, 37, 38, 39, 40, 41, 42, 43, 44, 45, 46, 47, 48, 49, 50, 51, 52, 53, 54, 55, 56, 57, 58, 59, 60, 61, 62, 63, 64, 65, 66, 67, 68, 69, 70, 71, 72, 73] (by decide +kernel) (by decide +kernel)) (goodIn_sub (fun _ h => List.mem_cons_of_mem _ (List.mem_append_left _ (List.mem_append_right _ h))) (by decide +kernel))) (goodIn_sub (fun _ h => List.mem_cons_of_mem _ (List.mem_append_right _ h)) (by decide +kernel))
set_option maxRecDepth 20000 in
theorem gL_delete_X3_delete : GoodIn wsL_delete (wsV RL 19 RX3 yX3_delete wsX3_delete) := goodIn_app (goodIn_of _ (by decide +kernel)) ggL_delete_X3_delete
theorem dL_delete_0 : decode cL_delete 0 = .ok (.aload_n 3, 1) := by decide +kernel
theorem dL_delete_1 : decode cL_delete 1 = .ok (.iconst 0, 1) := by decide +kernel
theorem dL_delete_2 : decode cL_delete 2 = .ok (.aload_n 0, 1) := by decide +kernel
theorem dL_delete_3 : decode cL_delete 3 = .ok (.iload_n 1, 1) := by decide +kernel
theorem dL_delete_4 : decode cL_delete 4 = .ok (.iload_n 2, 1) := by decide +kernel
theorem dL_delete_5 : decode cL_delete 5 = .ok (.invokevirtual 19, 3) := by decide +kernel
theorem dL_delete_8 : decode cL_delete 8 = .ok (.i2l, 1) := by decide +kernel
theorem dL_delete_9 : decode cL_delete 9 = .ok (.lastore, 1) := by decide +kernel
theorem dL_delete_10 : decode cL_delete 10 = .ok (.goto 11, 3) := by decide +kernel
theorem dL_delete_13 : decode cL_delete 13 = .ok (.astore 4, 2) := by decide +kernel
theorem dL_delete_15 : decode cL_delete 15 = .ok (.iconst 1, 1) := by decide +kernel
theorem dL_delete_16 : decode cL_delete 16 = .ok (.ireturn, 1) := by decide +kernel
theorem dL_delete_17 : decode cL_delete 17 = .ok (.astore 4, 2) := by decide +kernel
theorem dL_delete_19 : decode cL_delete 19 = .ok (.iconst 2, 1) := by decide +kernel
theorem dL_delete_20 : decode cL_delete 20 = .ok (.ireturn, 1) := by decide +kernel
theorem dL_delete_21 : decode cL_delete 21 = .ok (.iconst 0, 1) := by decide +kernel
theorem dL_delete_22 : decode cL_delete 22 = .ok (.ireturn, 1) := by decide +kernel
set_option maxRecDepth 20000 in
theorem ggL_copy_X3_copy : GoodIn wsL_copy wsX3_copy := goodIn_ca (goodIn_ca (goodIn_ca (goodIn_r _ [8, 9, 10, 11, 12, 13, 14, 15, 16, 17, 18, 19, 7, 20, 21, 22, 23, 24, 25, 26, 27, 28, 29, 30, 31, 32, 33, 34, 35, 36, 37, 38, 39, 40, 41, 42, 43, 44, 45, 46, 47, 48, 49, 50, 51, 52, 53, 54, 55, 56, 57, 58, 59, 60, 61, 62, 63, 64, 65, 66, 67, 68, 69, 70, 71, 72, 73, 74, 75, 76, 77, 78, 79] (by decide +kernel) (by decide +kernel)) (goodIn_sub (fun _ h => List.mem_cons_of_mem _ (List.mem_append_left _ (List.mem_append_left _ (List.mem_append_right _ h)))) (by decide +kernel))) (goodIn_sub (fun _ h => List.mem_cons_of_mem _ (List.mem_append_left _ (List.mem_append_right _ h))) (by decide +kernel))) (goodIn_sub (fun _ h => List.mem_cons_of_mem _ (List.mem_append_right _ h)) (by decide +kernel))
set_option maxRecDepth 20000 in
theorem gL_copy_X3_copy : GoodIn wsL_copy (wsV RL 22 RX3 yX3_copy wsX3_copy) := goodIn_app (goodIn_of _ (by decide +kernel)) ggL_copy_X3_copy
theorem dL_copy_0 : decode cL_copy 0 = .ok (.aload 4, 2) := by decide +kernel
theorem dL_copy_2 : decode cL_copy 2 = .ok (.iconst 0, 1) := by decide +kernel
theorem dL_copy_3 : decode cL_copy 3 = .ok (.aload_n 0, 1) := by decide +kernel
theorem dL_copy_4 : decode cL_copy 4 = .ok (.iload_n 1, 1) := by decide +kernel
theorem dL_copy_5 : decode cL_copy 5 = .ok (.iload_n 2, 1) := by decide +kernel
theorem dL_copy_6 : decode cL_copy 6 = .ok (.iload_n 3, 1) := by decide +kernel
theorem dL_copy_7 : decode cL_copy 7 = .ok (.invokevirtual 22, 3) := by decide +kernel
theorem dL_copy_10 : decode cL_copy 10 = .ok (.i2l, 1) := by decide +kernel
theorem dL_copy_11 : decode cL_copy 11 = .ok (.lastore, 1) := by decide +kernel
theorem dL_copy_12 : decode cL_copy 12 = .ok (.goto 15, 3) := by decide +kernel
theorem dL_copy_15 : decode cL_copy 15 = .ok (.astore 5, 2) := by decide +kernel
theorem dL_copy_17 : decode cL_copy 17 = .ok (.iconst 1, 1) := by decide +kernel
theorem dL_copy_18 : decode cL_copy 18 = .ok (.ireturn, 1) := by decide +kernel
theorem dL_copy_19 : decode cL_copy 19 = .ok (.astore 5, 2) := by decide +kernel
theorem dL_copy_21 : decode cL_copy 21 = .ok (.iconst 2, 1) := by decide +kernel
theorem dL_copy_22 : decode cL_copy 22 = .ok (.ireturn, 1) := by decide +kernel
theorem dL_copy_23 : decode cL_copy 23 = .ok (.astore 5, 2) := by decide +kernel
theorem dL_copy_25 : decode cL_copy 25 = .ok (.iconst 3, 1) := by decide +kernel
theorem dL_copy_26 : decode cL_copy 26 = .ok (.ireturn, 1) := by decide +kernel
theorem dL_copy_27 : decode cL_copy 27 = .ok (.iconst 0, 1) := by decide +kernel
theorem dL_copy_28 : decode cL_copy 28 = .ok (.ireturn, 1) := by decide +kernel
set_option maxRecDepth 20000 in
theorem ggL_at_X3_at : GoodIn wsL_at wsX3_at := goodIn_ca (goodIn_r _ [6, 7, 8, 9, 10, 11, 12, 13, 14, 15, 16, 17, 18, 19, 20, 21, 22, 23, 24, 25, 26, 27, 28, 29, 30, 31, 32, 33, 34, 35, 36, 37, 38] (by decide +kernel) (by decide +kernel)) (goodIn_sub (fun _ h => List.mem_cons_of_mem _ (List.mem_append_right _ h)) (by decide +kernel))
set_option maxRecDepth 20000 in
theorem gL_at_X3_at : GoodIn wsL_at (wsV RL 26 RX3 yX3_at wsX3_at) := goodIn_app (goodIn_of _ (by decide +kernel)) ggL_at_X3_at
theorem dL_at_0 : decode cL_at 0 = .ok (.aload_n 2, 1) := by decide +kernel
theorem dL_at_1 : decode cL_at 1 = .ok (.iconst 0, 1) := by decide +kernel
theorem dL_at_2 : decode cL_at 2 = .ok (.aload_n 0, 1) := by decide +kernel
theorem dL_at_3 : decode cL_at 3 = .ok (.iload_n 1, 1) := by decide +kernel
theorem dL_at_4 : decode cL_at 4 = .ok (.invokevirtual 26, 3) := by decide +kernel
theorem dL_at_7 : decode cL_at 7 = .ok (.i2l, 1) := by decide +kernel
theorem dL_at_8 : decode cL_at 8 = .ok (.lastore, 1) := by decide +kernel
theorem dL_at_9 : decode cL_at 9 = .ok (.goto 6, 3) := by decide +kernel
theorem dL_at_12 : decode cL_at 12 = .ok (.astore_n 3, 1) := by decide +kernel
theorem dL_at_13 : decode cL_at 13 = .ok (.iconst 1, 1) := by decide +kernel
theorem dL_at_14 : decode cL_at 14 = .ok (.ireturn, 1) := by decide +kernel
theorem dL_at_15 : decode cL_at 15 = .ok (.iconst 0, 1) := by decide +kernel
theorem dL_at_16 : decode cL_at 16 = .ok (.ireturn, 1) := by decide +kernel
set_option maxRecDepth 20000 in
theorem ggL_undo_X3_undo : GoodIn wsL_undo wsX3_undo := goodIn_ca (goodIn_r _ [6, 7, 8, 9, 10, 11, 12, 13, 14, 15, 16, 17, 18, 19, 20, 21, 22, 23, 24, 25, 26, 27, 28, 29, 30, 31, 32, 33, 34, 35, 36, 37, 38, 39, 40, 41, 42, 43] (by decide +kernel) (by decide +kernel)) (goodIn_sub (fun _ h => List.mem_cons_of_mem _ (List.mem_append_right _ h)) (by decide +kernel))
set_option maxRecDepth 20000 in
theorem gL_undo_X3_undo : GoodIn wsL_undo (wsV RL 30 RX3 yX3_undo wsX3_undo) := goodIn_app (goodIn_of _ (by decide +kernel)) ggL_undo_X3_undo
theorem dL_undo_0 : decode cL_undo 0 = .ok (.aload_n 1, 1) := by decide +kernel
theorem dL_undo_1 : decode cL_undo 1 = .ok (.iconst 0, 1) := by decide +kernel
theorem dL_undo_2 : decode cL_undo 2 = .ok (.aload_n 0, 1) := by decide +kernel
theorem dL_undo_3 : decode cL_undo 3 = .ok (.invokevirtual 30, 3) := by decide +kernel
theorem dL_undo_6 : decode cL_undo 6 = .ok (.i2l, 1) := by decide +kernel
theorem dL_undo_7 : decode cL_undo 7 = .ok (.lastore, 1) := by decide +kernel
theorem dL_undo_8 : decode cL_undo 8 = .ok (.goto 6, 3) := by decide +kernel
theorem dL_undo_11 : decode cL_undo 11 = .ok (.astore_n 2, 1) := by decide +kernel
theorem dL_undo_12 : decode cL_undo 12 = .ok (.iconst 1, 1) := by decide +kernel
theorem dL_undo_13 : decode cL_undo 13 = .ok (.ireturn, 1) := by decide +kernel
theorem dL_undo_14 : decode cL_undo 14 = .ok (.iconst 0, 1) := by decide +kernel
theorem dL_undo_15 : decode cL_undo 15 = .ok (.ireturn, 1) := by decide +kernel
set_option maxRecDepth 20000 in
theorem ggL_redo_X3_redo : GoodIn wsL_redo wsX3_redo := goodIn_ca (goodIn_r _ [6, 7, 8, 9, 10, 11, 12, 13, 14, 15, 16, 17, 18, 19, 20, 21, 22, 23, 24, 25, 26, 27, 28, 29, 30, 31, 32, 33, 34, 35, 36, 37, 38, 39, 40, 41, 42, 43] (by decide +kernel) (by decide +kernel)) (goodIn_sub (fun _ h => List.mem_cons_of_mem _ (List.mem_append_right _ h)) (by decide +kernel))
set_option maxRecDepth 20000 in
theorem gL_redo_X3_redo : GoodIn wsL_redo (wsV RL 36 RX3 yX3_redo wsX3_redo) := goodIn_app (goodIn_of _ (by decide +kernel)) ggL_redo_X3_redo
theorem dL_redo_0 : decode cL_redo 0 = .ok (.aload_n 1, 1) := by decide +kernel
theorem dL_redo_1 : decode cL_redo 1 = .ok (.iconst 0, 1) := by decide +kernel
theorem dL_redo_2 : decode cL_redo 2 = .ok (.aload_n 0, 1) := by decide +kernel
theorem dL_redo_3 : decode cL_redo 3 = .ok (.invokevirtual 36, 3) := by decide +kernel
theorem dL_redo_6 : decode cL_redo 6 = .ok (.i2l, 1) := by decide +kernel
theorem dL_redo_7 : decode cL_redo 7 = .ok (.lastore, 1) := by decide +kernel
theorem dL_redo_8 : decode cL_redo 8 = .ok (.goto 6, 3) := by decide +kernel
theorem dL_redo_11 : decode cL_redo 11 = .ok (.astore_n 2, 1) := by decide +kernel
theorem dL_redo_12 : decode cL_redo 12 = .ok (.iconst 1, 1) := by decide +kernel
theorem dL_redo_13 : decode cL_redo 13 = .ok (.ireturn, 1) := by decide +kernel
theorem dL_redo_14 : decode cL_redo 14 = .ok (.iconst 0, 1) := by decide +kernel
theorem dL_redo_15 : decode cL_redo 15 = .ok (.ireturn, 1) := by decide +kernel
set_option maxRecDepth 20000 in
theorem ggL_pattern_X3_pattern : GoodIn wsL_pattern wsX3_pattern := goodIn_ca (goodIn_ca (goodIn_r _ [7, 8, 9, 10, 11, 12, 6, 13, 14, 15, 16, 17, 18, 19, 20, 21, 22, 23, 24, 25, 26, 27, 28, 29, 30, 31, 32, 33] (by decide +kernel) (by decide +kernel)) (goodIn_sub (fun _ h => List.mem_cons_of_mem _ (List.mem_append_left _ (List.mem_append_right _ h))) (by decide +kernel))) (goodIn_sub (fun _ h => List.mem_cons_of_mem _ (List.mem_append_right _ h)) (by decide +kernel))
set_option maxRecDepth 20000 in
theorem gL_pattern_X3_pattern : GoodIn wsL_pattern (wsV RL 39 RX3 yX3_pattern wsX3_pattern) := goodIn_app (goodIn_of _ (by decide +kernel)) ggL_pattern_X3_pattern
theorem dL_pattern_0 : decode cL_pattern 0 = .ok (.aload_n 2, 1) := by decide +kernel
theorem dL_pattern_1 : decode cL_pattern 1 = .ok (.iconst 0, 1) := by decide +kernel
theorem dL_pattern_2 : decode cL_pattern 2 = .ok (.aload_n 0, 1) := by decide +kernel
theorem dL_pattern_3 : decode cL_pattern 3 = .ok (.iload_n 1, 1) := by decide +kernel
theorem dL_pattern_4 : decode cL_pattern 4 = .ok (.invokevirtual 39, 3) := by decide +kernel
theorem dL_pattern_7 : decode cL_pattern 7 = .ok (.i2l, 1) := by decide +kernel
theorem dL_pattern_8 : decode cL_pattern 8 = .ok (.lastore, 1) := by decide +kernel
theorem dL_pattern_9 : decode cL_pattern 9 = .ok (.goto 9, 3) := by decide +kernel
theorem dL_pattern_12 : decode cL_pattern 12 = .ok (.astore_n 3, 1) := by decide +kernel
theorem dL_pattern_13 : decode cL_pattern 13 = .ok (.iconst 1, 1) := by decide +kernel
theorem dL_pattern_14 : decode cL_pattern 14 = .ok (.ireturn, 1) := by decide +kernel
theorem dL_pattern_15 : decode cL_pattern 15 = .ok (.astore_n 3, 1) := by decide +kernel
theorem dL_pattern_16 : decode cL_pattern 16 = .ok (.iconst 2, 1) := by decide +kernel
theorem dL_pattern_17 : decode cL_pattern 17 = .ok (.ireturn, 1) := by decide +kernel
theorem dL_pattern_18 : decode cL_pattern 18 = .ok (.iconst 0, 1) := by decide +kernel
theorem dL_pattern_19 : decode cL_pattern 19 = .ok (.ireturn, 1) := by decide +kernel
set_option maxRecDepth 20000 in
theorem ggL_find_X3_find : GoodIn wsL_find wsX3_find := goodIn_ca (goodIn_r _ [6, 7, 8, 9, 10, 11, 12, 13, 14, 15, 16, 17, 5, 18, 19, 20, 21, 22, 23, 24, 25, 26, 27, 28, 29, 30, 31, 32, 33, 34, 35, 36, 37, 38, 39, 40, 41, 42] (by decide +kernel) (by decide +kernel)) (goodIn_sub (fun _ h => List.mem_cons_of_mem _ (List.mem_append_right _ h)) (by decide +kernel))
set_option maxRecDepth 20000 in
theorem gL_find_X3_find : GoodIn wsL_find (wsV RL 42 RX3 yX3_find wsX3_find) := goodIn_app (goodIn_of _ (by decide +kernel)) ggL_find_X3_find
theorem dL_find_0 : decode cL_find 0 = .ok (.aload_n 2, 1) := by decide +kernel
theorem dL_find_1 : decode cL_find 1 = .ok (.iconst 0, 1) := by decide +kernel
theorem dL_find_2 : decode cL_find 2 = .ok (.aload_n 0, 1) := by decide +kernel
theorem dL_find_3 : decode cL_find 3 = .ok (.iload_n 1, 1) := by decide +kernel
theorem dL_find_4 : decode cL_find 4 = .ok (.invokevirtual 42, 3) := by decide +kernel
theorem dL_find_7 : decode cL_find 7 = .ok (.i2l, 1) := by decide +kernel
theorem dL_find_8 : decode cL_find 8 = .ok (.lastore, 1) := by decide +kernel
theorem dL_find_9 : decode cL_find 9 = .ok (.goto 6, 3) := by decide +kernel
theorem dL_find_12 : decode cL_find 12 = .ok (.astore_n 3, 1) := by decide +kernel
theorem dL_find_13 : decode cL_find 13 = .ok (.iconst 1, 1) := by decide +kernel
theorem dL_find_14 : decode cL_find 14 = .ok (.ireturn, 1) := by decide +kernel
theorem dL_find_15 : decode cL_find 15 = .ok (.iconst 0, 1) := by decide +kernel
theorem dL_find_16 : decode cL_find 16 = .ok (.ireturn, 1) := by decide +kernel
set_option maxRecDepth 20000 in
theorem ggL_replace_X3_replace : GoodIn wsL_replace wsX3_replace := goodIn_ca (goodIn_ca (goodIn_r _ [7, 8, 9, 10, 11, 12, 6, 13, 14, 15, 16, 17, 18, 19, 20, 21, 22, 23, 24, 25, 26, 27, 28, 29, 30, 31, 32, 33, 34, 35, 36, 37, 38, 39, 40, 41, 42, 43, 44, 45, 46, 47, 48, 49, 50, 51, 52, 53, 54, 55, 56, 57, 58, 59, 60, 61, 62, 63, 64, 65, 66, 67, 68, 69, 70, 71, 72, 73, 74, 75, 76, 77, 78, 79, 80, 81, 82, 83, 84, 85, 86] (by decide +kernel) (by decide +kernel)) (goodIn_sub (fun _ h => List.mem_cons_of_mem _ (List.mem_append_left _ (List.mem_append_right _ h))) (by decide +kernel))) (goodIn_sub (fun _ h => List.mem_cons_of_mem _ (List.mem_append_right _ h)) (by decide +kernel))
set_option maxRecDepth 20000 in
theorem gL_replace_X3_replace : GoodIn wsL_replace (wsV RL 45 RX3 yX3_replace wsX3_replace) := goodIn_app (goodIn_of _ (by decide +kernel)) ggL_replace_X3_replace
theorem dL_replace_0 : decode cL_replace 0 = .ok (.aload_n 2, 1) := by decide +kernel
theorem dL_replace_1 : decode cL_replace 1 = .ok (.iconst 0, 1) := by decide +kernel
theorem dL_replace_2 : decode cL_replace 2 = .ok (.aload_n 0, 1) := by decide +kernel
theorem dL_replace_3 : decode cL_replace 3 = .ok (.iload_n 1, 1) := by decide +kernel
theorem dL_replace_4 : decode cL_replace 4 = .ok (.invokevirtual 45, 3) := by decide +kernel
theorem dL_replace_7 : decode cL_replace 7 = .ok (.i2l, 1) := by decide +kernel
theorem dL_replace_8 : decode cL_replace 8 = .ok (.lastore, 1) := by decide +kernel
theorem dL_replace_9 : decode cL_replace 9 = .ok (.goto 9, 3) := by decide +kernel
theorem dL_replace_12 : decode cL_replace 12 = .ok (.astore_n 3, 1) := by decide +kernel
theorem dL_replace_13 : decode cL_replace 13 = .ok (.iconst 1, 1) := by decide +kernel
theorem dL_replace_14 : decode cL_replace 14 = .ok (.ireturn, 1) := by decide +kernel
theorem dL_replace_15 : decode cL_replace 15 = .ok (.astore_n 3, 1) := by decide +kernel
theorem dL_replace_16 : decode cL_replace 16 = .ok (.iconst 2, 1) := by decide +kernel
theorem dL_replace_17 : decode cL_replace 17 = .ok (.ireturn, 1) := by decide +kernel
theorem dL_replace_18 : decode cL_replace 18 = .ok (.iconst 0, 1) := by decide +kernel
theorem dL_replace_19 : decode cL_replace 19 = .ok (.ireturn, 1) := by decide +kernel
set_option maxRecDepth 20000 in
theorem ggL_word_X3_word : GoodIn wsL_word wsX3_word := goodIn_ca (goodIn_r _ [6, 7, 8, 9, 10, 5, 11, 12, 13, 14, 15, 16, 17, 18, 19, 20, 21, 22, 23, 24, 25, 26, 27, 28, 29, 30, 31, 32] (by decide +kernel) (by decide +kernel)) (goodIn_sub (fun _ h => List.mem_cons_of_mem _ (List.mem_append_right _ h)) (by decide +kernel))
set_option maxRecDepth 20000 in
theorem gL_word_X3_word : GoodIn wsL_word (wsV RL 48 RX3 yX3_word wsX3_word) := goodIn_app (goodIn_of _ (by decide +kernel)) ggL_word_X3_word
theorem dL_word_0 : decode cL_word 0 = .ok (.aload_n 2, 1) := by decide +kernel
theorem dL_word_1 : decode cL_word 1 = .ok (.iconst 0, 1) := by decide +kernel
theorem dL_word_2 : decode cL_word 2 = .ok (.aload_n 0, 1) := by decide +kernel
theorem dL_word_3 : decode cL_word 3 = .ok (.iload_n 1, 1) := by decide +kernel
theorem dL_word_4 : decode cL_word 4 = .ok (.invokevirtual 48, 3) := by decide +kernel
theorem dL_word_7 : decode cL_word 7 = .ok (.i2l, 1) := by decide +kernel
theorem dL_word_8 : decode cL_word 8 = .ok (.lastore, 1) := by decide +kernel
theorem dL_word_9 : decode cL_word 9 = .ok (.goto 6, 3) := by decide +kernel
theorem dL_word_12 : decode cL_word 12 = .ok (.astore_n 3, 1) := by decide +kernel
theorem dL_word_13 : decode cL_word 13 = .ok (.iconst 1, 1) := by decide +kernel
theorem dL_word_14 : decode cL_word 14 = .ok (.ireturn, 1) := by decide +kernel
theorem dL_word_15 : decode cL_word 15 = .ok (.iconst 0, 1) := by decide +kernel
theorem dL_word_16 : decode cL_word 16 = .ok (.ireturn, 1) := by decide +kernel
set_option maxRecDepth 20000 in
theorem ggL_poke_X3_poke : GoodIn wsL_poke wsX3_poke := goodIn_ca (goodIn_r _ [6, 7, 8, 9, 10, 5, 11, 12, 13, 14, 15, 16, 17, 18, 19, 20, 21, 22, 23, 24, 25, 26, 27, 28, 29, 30, 31, 32, 33, 34, 35, 36] (by decide +kernel) (by decide +kernel)) (goodIn_sub (fun _ h => List.mem_cons_of_mem _ (List.mem_append_right _ h)) (by decide +kernel))
set_option maxRecDepth 20000 in
theorem gL_poke_X3_poke : GoodIn wsL_poke (wsV RL 51 RX3 yX3_poke wsX3_poke) := goodIn_app (goodIn_of _ (by decide +kernel)) ggL_poke_X3_poke
theorem dL_poke_0 : decode cL_poke 0 = .ok (.aload_n 3, 1) := by decide +kernel
theorem dL_poke_1 : decode cL_poke 1 = .ok (.iconst 0, 1) := by decide +kernel
theorem dL_poke_2 : decode cL_poke 2 = .ok (.aload_n 0, 1) := by decide +kernel
theorem dL_poke_3 : decode cL_poke 3 = .ok (.iload_n 1, 1) := by decide +kernel
theorem dL_poke_4 : decode cL_poke 4 = .ok (.iload_n 2, 1) := by decide +kernel
theorem dL_poke_5 : decode cL_poke 5 = .ok (.invokevirtual 51, 3) := by decide +kernel
theorem dL_poke_8 : decode cL_poke 8 = .ok (.i2l, 1) := by decide +kernel
theorem dL_poke_9 : decode cL_poke 9 = .ok (.lastore, 1) := by decide +kernel
theorem dL_poke_10 : decode cL_poke 10 = .ok (.goto 7, 3) := by decide +kernel
theorem dL_poke_13 : decode cL_poke 13 = .ok (.astore 4, 2) := by decide +kernel
theorem dL_poke_15 : decode cL_poke 15 = .ok (.iconst 1, 1) := by decide +kernel
theorem dL_poke_16 : decode cL_poke 16 = .ok (.ireturn, 1) := by decide +kernel
theorem dL_poke_17 : decode cL_poke 17 = .ok (.iconst 0, 1) := by decide +kernel
theorem dL_poke_18 : decode cL_poke 18 = .ok (.ireturn, 1) := by decide +kernel
set_option maxRecDepth 20000 in
theorem ggL_law_X3_init : GoodIn wsL_law wsX3_init := goodIn_r _ [9, 10, 11, 12, 13, 14, 15, 16, 17, 18, 19, 20, 21, 22, 23, 24, 25, 26, 27, 28, 29, 30, 31, 32, 33, 34, 35, 36, 37, 38, 39, 40, 41, 42, 43, 44, 45, 46, 47, 48, 49, 50, 436, 437, 438, 439, 418, 419, 420, 421, 422, 440, 441, 442, 443, 444] (by decide +kernel) (by decide +kernel)
set_option maxRecDepth 20000 in
theorem gL_law_X3_init : GoodIn wsL_law (wsX3_init) := ggL_law_X3_init
set_option maxRecDepth 20000 in
theorem ggL_law_X4_init : GoodIn wsL_law wsX4_init := goodIn_r _ [53, 54, 11, 12, 26, 55, 56, 57, 58, 59, 60, 61, 423, 424, 425, 426, 427, 428, 429, 430, 431, 432, 433, 434, 435] (by decide +kernel) (by decide +kernel)
set_option maxRecDepth 20000 in
theorem gL_law_X4_init : GoodIn wsL_law (wsX4_init) := ggL_law_X4_init
set_option maxRecDepth 20000 in
theorem ggL_law_L_insert : GoodIn wsL_law wsL_insert := goodIn_ca (goodIn_ca (goodIn_ca (goodIn_r _ [65, 66, 67, 68, 69, 70, 71, 2, 72, 16, 25, 73, 74, 75, 15, 76, 33, 34, 77, 78, 79, 80, 81, 82, 83, 84, 19, 85, 42, 86, 87, 88, 89, 90, 91, 92, 93, 94, 95, 96, 97, 98, 99, 100, 101, 102, 103, 41, 104, 105, 106, 107, 108, 109, 110, 111, 112, 113, 114, 115, 116, 117, 118, 119, 35, 120, 121, 122, 123, 36, 124, 125, 126, 418, 419, 420, 421, 422, 436, 437, 438, 439, 440, 441] (by decide +kernel) (by decide +kernel)) (goodIn_sub (fun _ h => List.mem_append_left _ (List.mem_append_left _ (List.mem_append_left _ (List.mem_append_right _ h)))) (by decide +kernel))) (goodIn_sub (fun _ h => List.mem_append_left _ (List.mem_append_left _ (List.mem_append_right _ h))) (by decide +kernel))) (goodIn_sub (fun _ h => List.mem_append_left _ (List.mem_append_right _ h)) (by decide +kernel))
set_option maxRecDepth 20000 in
theorem gL_law_L_insert : GoodIn wsL_law (va_wsS RL 58 yL_insert wsL_insert) := goodIn_app (goodIn_of _ (by decide +kernel)) ggL_law_L_insert
set_option maxRecDepth 20000 in
theorem ggL_law_X4_insert : GoodIn wsL_law wsX4_insert := goodIn_r _ [130, 131, 132, 133, 134, 135, 136, 5, 137, 56, 138, 139, 140, 141, 142, 143, 144, 145, 57, 146, 147, 148, 149, 55, 150, 151, 152, 153, 154, 155, 156, 157, 158, 423, 424, 425, 426, 427, 428, 429, 430, 431, 432, 433, 434, 435] (by decide +kernel) (by decide +kernel)
set_option maxRecDepth 20000 in
theorem gL_law_X4_insert : GoodIn wsL_law (wsV RL 63 RX4 yX4_insert wsX4_insert) := goodIn_app (goodIn_of _ (by decide +kernel)) ggL_law_X4_insert
set_option maxRecDepth 20000 in
theorem ggL_law_X4_thrown : GoodIn wsL_law wsX4_thrown := goodIn_r _ [162, 132, 423, 424, 425, 426, 427, 428, 429, 430, 431, 432, 433, 434, 435] (by decide +kernel) (by decide +kernel)
set_option maxRecDepth 20000 in
theorem gL_law_X4_thrown : GoodIn wsL_law (wsV RL 64 RX4 yX4_thrown wsX4_thrown) := goodIn_app (goodIn_of _ (by decide +kernel)) ggL_law_X4_thrown
set_option maxRecDepth 20000 in
theorem ggL_law_L_delete : GoodIn wsL_law wsL_delete := goodIn_ca (goodIn_ca (goodIn_r _ [165, 66, 67, 166, 167, 168, 2, 169, 16, 25, 73, 74, 75, 15, 76, 33, 34, 77, 78, 79, 80, 81, 82, 83, 84, 19, 85, 42, 170, 171, 172, 89, 90, 96, 97, 98, 99, 100, 101, 102, 103, 41, 104, 105, 106, 107, 112, 113, 114, 115, 116, 117, 118, 119, 35, 120, 121, 122, 123, 36, 124, 125, 126, 418, 419, 420, 421, 422, 436, 437, 438, 439, 440, 441] (by decide +kernel) (by decide +kernel)) (goodIn_sub (fun _ h => List.mem_append_left _ (List.mem_append_left _ (List.mem_append_left _ (List.mem_append_right _ h)))) (by decide +kernel))) (goodIn_sub (fun _ h => List.mem_append_left _ (List.mem_append_left _ (List.mem_append_right _ h))) (by decide +kernel))
set_option maxRecDepth 20000 in
theorem gL_law_L_delete : GoodIn wsL_law (va_wsS RL 67 yL_delete wsL_delete) := goodIn_app (goodIn_of _ (by decide +kernel)) ggL_law_L_delete
set_option maxRecDepth 20000 in
theorem ggL_law_X4_delete : GoodIn wsL_law wsX4_delete := goodIn_r _ [176, 132, 133, 134, 135, 136, 5, 137, 56, 138, 139, 140, 141, 142, 143, 144, 145, 57, 146, 147, 148, 149, 55, 154, 155, 156, 157, 158, 423, 424, 425, 426, 427, 428, 429, 430, 431, 432, 433, 434, 435] (by decide +kernel) (by decide +kernel)
set_option maxRecDepth 20000 in
theorem gL_law_X4_delete : GoodIn wsL_law (wsV RL 69 RX4 yX4_delete wsX4_delete) := goodIn_app (goodIn_of _ (by decide +kernel)) ggL_law_X4_delete
set_option maxRecDepth 20000 in
theorem ggL_law_L_copy : GoodIn wsL_law wsL_copy := goodIn_ca (goodIn_ca (goodIn_ca (goodIn_r _ [179, 66, 67, 68, 180, 181, 182, 2, 183, 16, 25, 73, 74, 75, 15, 76, 33, 34, 77, 78, 79, 80, 81, 82, 83, 84, 19, 85, 42, 170, 171, 172, 89, 90, 91, 92, 93, 94, 95, 96, 97, 98, 99, 100, 101, 102, 103, 41, 104, 105, 106, 107, 112, 113, 114, 115, 116, 117, 118, 119, 35, 120, 121, 122, 123, 36, 124, 125, 126, 418, 419, 420, 421, 422, 436, 437, 438, 439, 440, 441] (by decide +kernel) (by decide +kernel)) (goodIn_sub (fun _ h => List.mem_append_left _ (List.mem_append_left _ (List.mem_append_left _ (List.mem_append_right _ h)))) (by decide +kernel))) (goodIn_sub (fun _ h => List.mem_append_left _ (List.mem_append_left _ (List.mem_append_right _ h))) (by decide +kernel))) (goodIn_sub (fun _ h => List.mem_append_left _ (List.mem_append_right _ h)) (by decide +kernel))
set_option maxRecDepth 20000 in
theorem gL_law_L_copy : GoodIn wsL_law (va_wsS RL 70 yL_copy wsL_copy) := goodIn_app (goodIn_of _ (by decide +kernel)) ggL_law_L_copy
set_option maxRecDepth 20000 in
theorem ggL_law_X4_copy : GoodIn wsL_law wsX4_copy := goodIn_r _ [187, 132, 133, 134, 135, 136, 5, 137, 56, 138, 139, 140, 141, 142, 143, 144, 145, 57, 146, 147, 148, 149, 55, 154, 155, 156, 157, 158, 423, 424, 425, 426, 427, 428, 429, 430, 431, 432, 433, 434, 435] (by decide +kernel) (by decide +kernel)
set_option maxRecDepth 20000 in
theorem gL_law_X4_copy : GoodIn wsL_law (wsV RL 73 RX4 yX4_copy wsX4_copy) := goodIn_app (goodIn_of _ (by decide +kernel)) ggL_law_X4_copy
set_option maxRecDepth 20000 in
theorem ggL_law_L_at : GoodIn wsL_law wsL_at := goodIn_ca (goodIn_r _ [190, 66, 191, 192, 193, 2, 194, 80, 81, 16, 73, 74, 75, 15, 76, 33, 34, 82, 83, 84, 19, 85, 42, 195, 196, 197, 198, 41, 418, 419, 420, 421, 422, 436, 437, 438, 439, 440, 441] (by decide +kernel) (by decide +kernel)) (goodIn_sub (fun _ h => List.mem_append_left _ (List.mem_append_left _ (List.mem_append_left _ (List.mem_append_right _ h)))) (by decide +kernel))
set_option maxRecDepth 20000 in
theorem gL_law_L_at : GoodIn wsL_law (va_wsS RL 74 yL_at wsL_at) := goodIn_app (goodIn_of _ (by decide +kernel)) ggL_law_L_at
set_option maxRecDepth 20000 in
theorem ggL_law_X4_at : GoodIn wsL_law wsX4_at := goodIn_r _ [202, 132, 134, 135, 136, 5, 137, 56, 138, 139, 140, 141, 146, 147, 148, 149, 55, 423, 424, 425, 426, 427, 428, 429, 430, 431, 432, 433, 434, 435] (by decide +kernel) (by decide +kernel)
set_option maxRecDepth 20000 in
theorem gL_law_X4_at : GoodIn wsL_law (wsV RL 77 RX4 yX4_at wsX4_at) := goodIn_app (goodIn_of _ (by decide +kernel)) ggL_law_X4_at
set_option maxRecDepth 20000 in
theorem ggL_law_L_undo : GoodIn wsL_law wsL_undo := goodIn_ca (goodIn_r _ [205, 206, 207, 208, 209, 2, 210, 211, 212, 16, 213, 214, 215, 15, 216, 35, 217, 218, 219, 220, 34, 36, 73, 74, 75, 76, 33, 82, 83, 84, 19, 85, 42, 418, 419, 420, 421, 422, 436, 437, 438, 439, 440, 441] (by decide +kernel) (by decide +kernel)) (goodIn_sub (fun _ h => List.mem_append_right _ h) (by decide +kernel))
set_option maxRecDepth 20000 in
theorem gL_law_L_undo : GoodIn wsL_law (va_wsS RL 78 yL_undo wsL_undo) := goodIn_app (goodIn_of _ (by decide +kernel)) ggL_law_L_undo
set_option maxRecDepth 20000 in
theorem ggL_law_X4_undo : GoodIn wsL_law wsX4_undo := goodIn_r _ [224, 138, 132, 158, 134, 135, 136, 5, 137, 56, 423, 424, 425, 426, 427, 428, 429, 430, 431, 432, 433, 434, 435] (by decide +kernel) (by decide +kernel)
set_option maxRecDepth 20000 in
theorem gL_law_X4_undo : GoodIn wsL_law (wsV RL 81 RX4 yX4_undo wsX4_undo) := goodIn_app (goodIn_of _ (by decide +kernel)) ggL_law_X4_undo
set_option maxRecDepth 20000 in
theorem ggL_law_L_redo : GoodIn wsL_law wsL_redo := goodIn_ca (goodIn_r _ [227, 206, 228, 229, 230, 2, 231, 211, 212, 16, 232, 233, 234, 15, 235, 36, 236, 237, 238, 239, 34, 35, 73, 74, 75, 76, 33, 82, 83, 84, 19, 85, 42, 418, 419, 420, 421, 422, 436, 437, 438, 439, 440, 441] (by decide +kernel) (by decide +kernel)) (goodIn_sub (fun _ h => List.mem_append_right _ h) (by decide +kernel))
set_option maxRecDepth 20000 in
theorem gL_law_L_redo : GoodIn wsL_law (va_wsS RL 82 yL_redo wsL_redo) := goodIn_app (goodIn_of _ (by decide +kernel)) ggL_law_L_redo
set_option maxRecDepth 20000 in
theorem ggL_law_X4_redo : GoodIn wsL_law wsX4_redo := goodIn_r _ [243, 158, 132, 138, 134, 135, 136, 5, 137, 56, 423, 424, 425, 426, 427, 428, 429, 430, 431, 432, 433, 434, 435] (by decide +kernel) (by decide +kernel)
set_option maxRecDepth 20000 in
theorem gL_law_X4_redo : GoodIn wsL_law (wsV RL 84 RX4 yX4_redo wsX4_redo) := goodIn_app (goodIn_of _ (by decide +kernel)) ggL_law_X4_redo
set_option maxRecDepth 20000 in
theorem ggL_law_L_pattern : GoodIn wsL_law wsL_pattern := goodIn_ca (goodIn_ca (goodIn_r _ [246, 67, 68, 247, 248, 249, 2, 250, 94, 95, 20, 86, 87, 88, 89, 90, 82, 83, 84, 19, 85, 42, 108, 109, 110, 111, 41, 418, 419, 420, 421, 422, 440, 441] (by decide +kernel) (by decide +kernel)) (goodIn_sub (fun _ h => List.mem_append_left _ (List.mem_append_right _ h)) (by decide +kernel))) (goodIn_sub (fun _ h => List.mem_append_left _ (List.mem_append_left _ (List.mem_append_right _ h))) (by decide +kernel))
set_option maxRecDepth 20000 in
theorem gL_law_L_pattern : GoodIn wsL_law (va_wsS RL 85 yL_pattern wsL_pattern) := goodIn_app (goodIn_of _ (by decide +kernel)) ggL_law_L_pattern
set_option maxRecDepth 20000 in
theorem ggL_law_X4_pattern : GoodIn wsL_law wsX4_pattern := goodIn_r _ [254, 131, 255, 132, 58, 139, 140, 5, 141, 423, 424, 425, 426, 427, 428, 429, 430, 431, 432, 433, 434, 435] (by decide +kernel) (by decide +kernel)
set_option maxRecDepth 20000 in
theorem gL_law_X4_pattern : GoodIn wsL_law (wsV RL 87 RX4 yX4_pattern wsX4_pattern) := goodIn_app (goodIn_of _ (by decide +kernel)) ggL_law_X4_pattern
set_option maxRecDepth 20000 in
theorem ggL_law_X3_noPattern : GoodIn wsL_law wsX3_noPattern := goodIn_r _ [259, 20, 82, 83, 84, 19, 85, 42, 96, 97, 98, 99, 418, 419, 420, 421, 422, 440, 441] (by decide +kernel) (by decide +kernel)
set_option maxRecDepth 20000 in
theorem gL_law_X3_noPattern : GoodIn wsL_law (wsV RL 88 RX3 yX3_noPattern wsX3_noPattern) := goodIn_app (goodIn_of _ (by decide +kernel)) ggL_law_X3_noPattern
set_option maxRecDepth 20000 in
theorem ggL_law_X4_noPattern : GoodIn wsL_law wsX4_noPattern := goodIn_r _ [263, 132, 255, 423, 424, 425, 426, 427, 428, 429, 430, 431, 432, 433, 434, 435] (by decide +kernel) (by decide +kernel)
set_option maxRecDepth 20000 in
theorem gL_law_X4_noPattern : GoodIn wsL_law (wsV RL 91 RX4 yX4_noPattern wsX4_noPattern) := goodIn_app (goodIn_of _ (by decide +kernel)) ggL_law_X4_noPattern
set_option maxRecDepth 20000 in
theorem ggL_law_L_find : GoodIn wsL_law wsL_find := goodIn_ca (goodIn_r _ [266, 66, 267, 268, 269, 2, 270, 16, 20, 73, 74, 75, 15, 76, 33, 34, 77, 78, 79, 80, 81, 82, 83, 84, 19, 85, 42, 271, 272, 273, 274, 41, 418, 419, 420, 421, 422, 436, 437, 438, 439, 440, 441] (by decide +kernel) (by decide +kernel)) (goodIn_sub (fun _ h => List.mem_append_left _ (List.mem_append_left _ (List.mem_append_left _ (List.mem_append_right _ h)))) (by decide +kernel))
set_option maxRecDepth 20000 in
theorem gL_law_L_find : GoodIn wsL_law (va_wsS RL 92 yL_find wsL_find) := goodIn_app (goodIn_of _ (by decide +kernel)) ggL_law_L_find
set_option maxRecDepth 20000 in
theorem ggL_law_X4_find : GoodIn wsL_law wsX4_find := goodIn_r _ [278, 132, 134, 135, 136, 5, 137, 56, 138, 139, 140, 141, 279, 280, 281, 282, 255, 58, 146, 147, 148, 149, 55, 423, 424, 425, 426, 427, 428, 429, 430, 431, 432, 433, 434, 435] (by decide +kernel) (by decide +kernel)
set_option maxRecDepth 20000 in
theorem gL_law_X4_find : GoodIn wsL_law (wsV RL 94 RX4 yX4_find wsX4_find) := goodIn_app (goodIn_of _ (by decide +kernel)) ggL_law_X4_find
set_option maxRecDepth 20000 in
theorem ggL_law_L_replace : GoodIn wsL_law wsL_replace := goodIn_ca (goodIn_ca (goodIn_r _ [285, 67, 206, 286, 287, 288, 2, 289, 211, 212, 20, 86, 87, 88, 89, 90, 82, 83, 84, 19, 85, 42, 290, 291, 292, 293, 16, 25, 73, 74, 75, 15, 76, 33, 34, 96, 97, 98, 99, 271, 272, 273, 274, 41, 108, 109, 110, 111, 195, 196, 197, 198, 112, 113, 114, 115, 116, 117, 118, 119, 35, 120, 121, 122, 123, 36, 124, 125, 126, 101, 102, 103, 104, 105, 106, 107, 418, 419, 420, 421, 422, 440, 441, 436, 437, 438, 439] (by decide +kernel) (by decide +kernel)) (goodIn_sub (fun _ h => List.mem_append_right _ h) (by decide +kernel))) (goodIn_sub (fun _ h => List.mem_append_left _ (List.mem_append_left _ (List.mem_append_right _ h))) (by decide +kernel))
set_option maxRecDepth 20000 in
theorem gL_law_L_replace : GoodIn wsL_law (va_wsS RL 95 yL_replace wsL_replace) := goodIn_app (goodIn_of _ (by decide +kernel)) ggL_law_L_replace
set_option maxRecDepth 20000 in
theorem ggL_law_X4_replace : GoodIn wsL_law wsX4_replace := goodIn_r _ [297, 131, 255, 132, 133, 139, 140, 5, 141, 134, 135, 136, 137, 56, 138, 279, 280, 281, 282, 58, 146, 147, 148, 149, 55, 150, 151, 152, 153, 57, 154, 155, 156, 157, 158, 423, 424, 425, 426, 427, 428, 429, 430, 431, 432, 433, 434, 435] (by decide +kernel) (by decide +kernel)
set_option maxRecDepth 20000 in
theorem gL_law_X4_replace : GoodIn wsL_law (wsV RL 97 RX4 yX4_replace wsX4_replace) := goodIn_app (goodIn_of _ (by decide +kernel)) ggL_law_X4_replace
set_option maxRecDepth 20000 in
theorem ggL_law_X3_snapshot : GoodIn wsL_law wsX3_snapshot := goodIn_r _ [301, 24, 16, 73, 74, 75, 15, 76, 33, 34, 302, 303, 304, 23, 305, 50, 306, 83, 84, 19, 85, 42, 307, 196, 197, 198, 41, 308, 309, 310, 311, 48, 312, 313, 314, 315, 316, 317, 318, 319, 418, 419, 420, 421, 422, 436, 437, 438, 439, 442, 443, 444, 440, 441] (by decide +kernel) (by decide +kernel)
set_option maxRecDepth 20000 in
theorem gL_law_X3_snapshot : GoodIn wsL_law (wsV RL 98 RX3 yX3_snapshot wsX3_snapshot) := goodIn_app (goodIn_of _ (by decide +kernel)) ggL_law_X3_snapshot
set_option maxRecDepth 20000 in
theorem ggL_law_X4_snapshot : GoodIn wsL_law wsX4_snapshot := goodIn_r _ [323, 132, 324, 61, 60, 59, 134, 135, 136, 5, 137, 56, 138, 146, 147, 148, 149, 55, 423, 424, 425, 426, 427, 428, 429, 430, 431, 432, 433, 434, 435] (by decide +kernel) (by decide +kernel)
set_option maxRecDepth 20000 in
theorem gL_law_X4_snapshot : GoodIn wsL_law (wsV RL 101 RX4 yX4_snapshot wsX4_snapshot) := goodIn_app (goodIn_of _ (by decide +kernel)) ggL_law_X4_snapshot
set_option maxRecDepth 20000 in
theorem ggL_law_L_word : GoodIn wsL_law wsL_word := goodIn_ca (goodIn_r _ [327, 66, 328, 329, 330, 2, 331, 24, 332, 333, 334, 335, 80, 81, 316, 317, 318, 23, 319, 50, 336, 337, 338, 339, 48, 418, 419, 420, 421, 422, 442, 443, 444] (by decide +kernel) (by decide +kernel)) (goodIn_sub (fun _ h => List.mem_append_left _ (List.mem_append_left _ (List.mem_append_left _ (List.mem_append_right _ h)))) (by decide +kernel))
set_option maxRecDepth 20000 in
theorem gL_law_L_word : GoodIn wsL_law (va_wsS RL 102 yL_word wsL_word) := goodIn_app (goodIn_of _ (by decide +kernel)) ggL_law_L_word
set_option maxRecDepth 20000 in
theorem ggL_law_X4_word : GoodIn wsL_law wsX4_word := goodIn_r _ [343, 324, 132, 59, 139, 140, 5, 141, 423, 424, 425, 426, 427, 428, 429, 430, 431, 432, 433, 434, 435] (by decide +kernel) (by decide +kernel)
set_option maxRecDepth 20000 in
theorem gL_law_X4_word : GoodIn wsL_law (wsV RL 104 RX4 yX4_word wsX4_word) := goodIn_app (goodIn_of _ (by decide +kernel)) ggL_law_X4_word
set_option maxRecDepth 20000 in
theorem ggL_law_L_poke : GoodIn wsL_law wsL_poke := goodIn_ca (goodIn_r _ [346, 66, 347, 348, 349, 2, 350, 24, 332, 333, 334, 335, 80, 81, 316, 317, 318, 23, 319, 50, 336, 337, 338, 339, 48, 351, 352, 353, 354, 418, 419, 420, 421, 422, 442, 443, 444] (by decide +kernel) (by decide +kernel)) (goodIn_sub (fun _ h => List.mem_append_left _ (List.mem_append_left _ (List.mem_append_left _ (List.mem_append_right _ h)))) (by decide +kernel))
set_option maxRecDepth 20000 in
theorem gL_law_L_poke : GoodIn wsL_law (va_wsS RL 105 yL_poke wsL_poke) := goodIn_app (goodIn_of _ (by decide +kernel)) ggL_law_L_poke
set_option maxRecDepth 20000 in
theorem ggL_law_X4_poke : GoodIn wsL_law wsX4_poke := goodIn_r _ [358, 324, 132, 59, 139, 140, 5, 141, 423, 424, 425, 426, 427, 428, 429, 430, 431, 432, 433, 434, 435] (by decide +kernel) (by decide +kernel)
set_option maxRecDepth 20000 in
theorem gL_law_X4_poke : GoodIn wsL_law (wsV RL 107 RX4 yX4_poke wsX4_poke) := goodIn_app (goodIn_of _ (by decide +kernel)) ggL_law_X4_poke
set_option maxRecDepth 20000 in
theorem ggL_law_X3_restore : GoodIn wsL_law wsX3_restore := goodIn_r _ [362, 24, 25, 363, 364, 365, 23, 366, 49, 50, 48, 367, 97, 98, 19, 99, 42, 368, 369, 370, 371, 372, 373, 374, 375, 306, 83, 84, 85, 376, 377, 378, 379, 380, 101, 102, 103, 41, 104, 105, 106, 107, 381, 109, 110, 111, 112, 113, 114, 2, 115, 16, 116, 117, 118, 15, 119, 34, 33, 35, 120, 121, 122, 123, 36, 124, 125, 126, 82, 418, 419, 420, 421, 422, 442, 443, 444, 440, 441, 436, 437, 438, 439] (by decide +kernel) (by decide +kernel)
set_option maxRecDepth 20000 in
theorem gL_law_X3_restore : GoodIn wsL_law (wsV RL 108 RX3 yX3_restore wsX3_restore) := goodIn_app (goodIn_of _ (by decide +kernel)) ggL_law_X3_restore
set_option maxRecDepth 20000 in
theorem ggL_law_X4_restore : GoodIn wsL_law wsX4_restore := goodIn_r _ [385, 132, 133, 324, 59, 61, 60, 57, 150, 151, 152, 5, 153, 154, 155, 156, 157, 138, 55, 56, 158, 423, 424, 425, 426, 427, 428, 429, 430, 431, 432, 433, 434, 435] (by decide +kernel) (by decide +kernel)
set_option maxRecDepth 20000 in
theorem gL_law_X4_restore : GoodIn wsL_law (wsV RL 111 RX4 yX4_restore wsX4_restore) := goodIn_app (goodIn_of _ (by decide +kernel)) ggL_law_X4_restore
set_option maxRecDepth 20000 in
theorem ggL_law_X3_told : GoodIn wsL_law wsX3_told := goodIn_r _ [389, 16, 20, 24, 73, 74, 75, 15, 76, 33, 34, 82, 83, 84, 19, 85, 42, 213, 214, 215, 216, 35, 232, 233, 234, 235, 36, 316, 317, 318, 23, 319, 50, 390, 391, 392, 2, 393, 27, 394, 395, 396, 397, 195, 196, 197, 198, 41, 418, 419, 420, 421, 422, 436, 437, 438, 439, 440, 441, 442, 443, 444] (by decide +kernel) (by decide +kernel)
set_option maxRecDepth 20000 in
theorem gL_law_X3_told : GoodIn wsL_law (wsV RL 112 RX3 yX3_told wsX3_told) := goodIn_app (goodIn_of _ (by decide +kernel)) ggL_law_X3_told
set_option maxRecDepth 20000 in
theorem ggL_law_X4_told : GoodIn wsL_law wsX4_told := goodIn_r _ [401, 132, 138, 158, 255, 324, 134, 135, 136, 5, 137, 56, 146, 147, 148, 149, 55, 423, 424, 425, 426, 427, 428, 429, 430, 431, 432, 433, 434, 435] (by decide +kernel) (by decide +kernel)
set_option maxRecDepth 20000 in
theorem gL_law_X4_told : GoodIn wsL_law (wsV RL 115 RX4 yX4_told wsX4_told) := goodIn_app (goodIn_of _ (by decide +kernel)) ggL_law_X4_told
set_option maxRecDepth 20000 in
theorem ggL_law_X3_clear : GoodIn wsL_law wsX3_clear := goodIn_r _ [405, 16, 20, 24, 406, 407, 408, 15, 409, 33, 34, 35, 36, 124, 97, 98, 19, 99, 42, 96, 410, 411, 412, 23, 413, 50, 418, 419, 420, 421, 422, 436, 437, 438, 439, 440, 441, 442, 443, 444] (by decide +kernel) (by decide +kernel)
set_option maxRecDepth 20000 in
theorem gL_law_X3_clear : GoodIn wsL_law (wsV RL 116 RX3 yX3_clear wsX3_clear) := goodIn_app (goodIn_of _ (by decide +kernel)) ggL_law_X3_clear
set_option maxRecDepth 20000 in
theorem ggL_law_X4_clear : GoodIn wsL_law wsX4_clear := goodIn_r _ [417, 132, 138, 158, 56, 255, 324, 423, 424, 425, 426, 427, 428, 429, 430, 431, 432, 433, 434, 435] (by decide +kernel) (by decide +kernel)
set_option maxRecDepth 20000 in
theorem gL_law_X4_clear : GoodIn wsL_law (wsV RL 119 RX4 yX4_clear wsX4_clear) := goodIn_app (goodIn_of _ (by decide +kernel)) ggL_law_X4_clear

set_option maxRecDepth 20000 in
theorem ggL_insert_X3_insert : GoodIn wsL_insert wsX3_insert := goodIn_ca (goodIn_ca (goodIn_ca (goodIn_r _ [8, 9, 10, 11, 12, 13, 14, 15, 16, 17, 18, 19, 7, 20, 21, 22, 23, 24, 25, 26, 27, 28, 29, 30, 31, 32, 33, 34, 35, 36, 37, 38, 39, 40, 41, 42, 43, 44, 45, 46, 47, 48, 49, 50, 51, 52, 53, 54, 55, 56, 57, 58, 59, 60, 61, 62, 63, 64, 65, 66, 67, 68, 69, 70, 71, 72, 73, 74, 75, 76, 77, 78, 79, 80, 81, 82, 83] (by decide +kernel) (by decide +kernel)) (goodIn_sub (fun _ h => List.mem_cons_of_mem _ (List.mem_append_left _ (List.mem_append_left _ (List.mem_append_right _ h)))) (by decide +kernel))) (goodIn_sub (fun _ h => List.mem_cons_of_mem _ (List.mem_append_left _ (List.mem_append_right _ h))) (by decide +kernel))) (goodIn_sub (fun _ h => List.mem_cons_of_mem _ (List.mem_append_right _ h)) (by decide +kernel))
set_option maxRecDepth 20000 in
theorem gL_insert_X3_insert : GoodIn wsL_insert (wsV RL 7 RX3 yX3_insert wsX3_insert) := goodIn_app (goodIn_of _ (by decide +kernel)) ggL_insert_X3_insert
theorem dL_insert_0 : decode cL_insert 0 = .ok (.aload_n 3, 1) := by decide +kernel
theorem dL_insert_1 : decode cL_insert 1 = .ok (.iconst 0, 1) := by decide +kernel
theorem dL_insert_2 : decode cL_insert 2 = .ok (.aload_n 0, 1) := by decide +kernel
theorem dL_insert_3 : decode cL_insert 3 = .ok (.iload_n 1, 1) := by decide +kernel
theorem dL_insert_4 : decode cL_insert 4 = .ok (.iload_n 2, 1) := by decide +kernel
theorem dL_insert_5 : decode cL_insert 5 = .ok (.invokevirtual 7, 3) := by decide +kernel
theorem dL_insert_8 : decode cL_insert 8 = .ok (.i2l, 1) := by decide +kernel
theorem dL_insert_9 : decode cL_insert 9 = .ok (.lastore, 1) := by decide +kernel
theorem dL_insert_10 : decode cL_insert 10 = .ok (.goto 15, 3) := by decide +kernel
theorem dL_insert_13 : decode cL_insert 13 = .ok (.astore 4, 2) := by decide +kernel
theorem dL_insert_15 : decode cL_insert 15 = .ok (.iconst 1, 1) := by decide +kernel
theorem dL_insert_16 : decode cL_insert 16 = .ok (.ireturn, 1) := by decide +kernel
theorem dL_insert_17 : decode cL_insert 17 = .ok (.astore 4, 2) := by decide +kernel
theorem dL_insert_19 : decode cL_insert 19 = .ok (.iconst 2, 1) := by decide +kernel
theorem dL_insert_20 : decode cL_insert 20 = .ok (.ireturn, 1) := by decide +kernel
theorem dL_insert_21 : decode cL_insert 21 = .ok (.astore 4, 2) := by decide +kernel
theorem dL_insert_23 : decode cL_insert 23 = .ok (.iconst 3, 1) := by decide +kernel
theorem dL_insert_24 : decode cL_insert 24 = .ok (.ireturn, 1) := by decide +kernel
theorem dL_insert_25 : decode cL_insert 25 = .ok (.iconst 0, 1) := by decide +kernel
theorem dL_insert_26 : decode cL_insert 26 = .ok (.ireturn, 1) := by decide +kernel
set_option maxRecDepth 20000 in
theorem ggL_delete_X3_delete : GoodIn wsL_delete wsX3_delete := goodIn_ca (goodIn_ca (goodIn_r _ [7, 8, 9, 10, 11, 12, 13, 14, 15, 16, 17, 18, 6, 19, 20, 21, 22, 23, 24, 25, 26, 27, 28, 29, 30, 31, 32, 33, 34, 35, 36, 37, 38, 39, 40, 41, 42, 43, 44, 45, 46, 47, 48, 49, 50, 51, 52, 53, 54, 55, 56, 57, 58, 59, 60, 61, 62, 63, 64, 65, 66, 67, 68, 69, 70, 71, 72, 73] (by decide +kernel) (by decide +kernel)) (goodIn_sub (fun _ h => List.mem_cons_of_mem _ (List.mem_append_left _ (List.mem_append_right _ h))) (by decide +kernel))) (goodIn_sub (fun _ h => List.mem_cons_of_mem _ (List.mem_append_right _ h)) (by decide +kernel))
set_option maxRecDepth 20000 in
theorem gL_delete_X3_delete : GoodIn wsL_delete (wsV RL 19 RX3 yX3_delete wsX3_delete) := goodIn_app (goodIn_of _ (by decide +kernel)) ggL_delete_X3_delete
theorem dL_delete_0 : decode cL_delete 0 = .ok (.aload_n 3, 1) := by decide +kernel
theorem dL_delete_1 : decode cL_delete 1 = .ok (.iconst 0, 1) := by decide +kernel
theorem dL_delete_2 : decode cL_delete 2 = .ok (.aload_n 0, 1) := by decide +kernel
theorem dL_delete_3 : decode cL_delete 3 = .ok (.iload_n 1, 1) := by decide +kernel
theorem dL_delete_4 : decode cL_delete 4 = .ok (.iload_n 2, 1) := by decide +kernel
theorem dL_delete_5 : decode cL_delete 5 = .ok (.invokevirtual 19, 3) := by decide +kernel
theorem dL_delete_8 : decode cL_delete 8 = .ok (.i2l, 1) := by decide +kernel
theorem dL_delete_9 : decode cL_delete 9 = .ok (.lastore, 1) := by decide +kernel
theorem dL_delete_10 : decode cL_delete 10 = .ok (.goto 11, 3) := by decide +kernel
theorem dL_delete_13 : decode cL_delete 13 = .ok (.astore 4, 2) := by decide +kernel
theorem dL_delete_15 : decode cL_delete 15 = .ok (.iconst 1, 1) := by decide +kernel
theorem dL_delete_16 : decode cL_delete 16 = .ok (.ireturn, 1) := by decide +kernel
theorem dL_delete_17 : decode cL_delete 17 = .ok (.astore 4, 2) := by decide +kernel
theorem dL_delete_19 : decode cL_delete 19 = .ok (.iconst 2, 1) := by decide +kernel
theorem dL_delete_20 : decode cL_delete 20 = .ok (.ireturn, 1) := by decide +kernel
theorem dL_delete_21 : decode cL_delete 21 = .ok (.iconst 0, 1) := by decide +kernel
theorem dL_delete_22 : decode cL_delete 22 = .ok (.ireturn, 1) := by decide +kernel
set_option maxRecDepth 20000 in
theorem ggL_copy_X3_copy : GoodIn wsL_copy wsX3_copy := goodIn_ca (goodIn_ca (goodIn_ca (goodIn_r _ [8, 9, 10, 11, 12, 13, 14, 15, 16, 17, 18, 19, 7, 20, 21, 22, 23, 24, 25, 26, 27, 28, 29, 30, 31, 32, 33, 34, 35, 36, 37, 38, 39, 40, 41, 42, 43, 44, 45, 46, 47, 48, 49, 50, 51, 52, 53, 54, 55, 56, 57, 58, 59, 60, 61, 62, 63, 64, 65, 66, 67, 68, 69, 70, 71, 72, 73, 74, 75, 76, 77, 78, 79] (by decide +kernel) (by decide +kernel)) (goodIn_sub (fun _ h => List.mem_cons_of_mem _ (List.mem_append_left _ (List.mem_append_left _ (List.mem_append_right _ h)))) (by decide +kernel))) (goodIn_sub (fun _ h => List.mem_cons_of_mem _ (List.mem_append_left _ (List.mem_append_right _ h))) (by decide +kernel))) (goodIn_sub (fun _ h => List.mem_cons_of_mem _ (List.mem_append_right _ h)) (by decide +kernel))
set_option maxRecDepth 20000 in
theorem gL_copy_X3_copy : GoodIn wsL_copy (wsV RL 22 RX3 yX3_copy wsX3_copy) := goodIn_app (goodIn_of _ (by decide +kernel)) ggL_copy_X3_copy
theorem dL_copy_0 : decode cL_copy 0 = .ok (.aload 4, 2) := by decide +kernel
theorem dL_copy_2 : decode cL_copy 2 = .ok (.iconst 0, 1) := by decide +kernel
theorem dL_copy_3 : decode cL_copy 3 = .ok (.aload_n 0, 1) := by decide +kernel
theorem dL_copy_4 : decode cL_copy 4 = .ok (.iload_n 1, 1) := by decide +kernel
theorem dL_copy_5 : decode cL_copy 5 = .ok (.iload_n 2, 1) := by decide +kernel
theorem dL_copy_6 : decode cL_copy 6 = .ok (.iload_n 3, 1) := by decide +kernel
theorem dL_copy_7 : decode cL_copy 7 = .ok (.invokevirtual 22, 3) := by decide +kernel
theorem dL_copy_10 : decode cL_copy 10 = .ok (.i2l, 1) := by decide +kernel
theorem dL_copy_11 : decode cL_copy 11 = .ok (.lastore, 1) := by decide +kernel
theorem dL_copy_12 : decode cL_copy 12 = .ok (.goto 15, 3) := by decide +kernel
theorem dL_copy_15 : decode cL_copy 15 = .ok (.astore 5, 2) := by decide +kernel
theorem dL_copy_17 : decode cL_copy 17 = .ok (.iconst 1, 1) := by decide +kernel
theorem dL_copy_18 : decode cL_copy 18 = .ok (.ireturn, 1) := by decide +kernel
theorem dL_copy_19 : decode cL_copy 19 = .ok (.astore 5, 2) := by decide +kernel
theorem dL_copy_21 : decode cL_copy 21 = .ok (.iconst 2, 1) := by decide +kernel
theorem dL_copy_22 : decode cL_copy 22 = .ok (.ireturn, 1) := by decide +kernel
theorem dL_copy_23 : decode cL_copy 23 = .ok (.astore 5, 2) := by decide +kernel
theorem dL_copy_25 : decode cL_copy 25 = .ok (.iconst 3, 1) := by decide +kernel
theorem dL_copy_26 : decode cL_copy 26 = .ok (.ireturn, 1) := by decide +kernel
theorem dL_copy_27 : decode cL_copy 27 = .ok (.iconst 0, 1) := by decide +kernel
theorem dL_copy_28 : decode cL_copy 28 = .ok (.ireturn, 1) := by decide +kernel
set_option maxRecDepth 20000 in
theorem ggL_at_X3_at : GoodIn wsL_at wsX3_at := goodIn_ca (goodIn_r _ [6, 7, 8, 9, 10, 11, 12, 13, 14, 15, 16, 17, 18, 19, 20, 21, 22, 23, 24, 25, 26, 27, 28, 29, 30, 31, 32, 33, 34, 35, 36, 37, 38] (by decide +kernel) (by decide +kernel)) (goodIn_sub (fun _ h => List.mem_cons_of_mem _ (List.mem_append_right _ h)) (by decide +kernel))
set_option maxRecDepth 20000 in
theorem gL_at_X3_at : GoodIn wsL_at (wsV RL 26 RX3 yX3_at wsX3_at) := goodIn_app (goodIn_of _ (by decide +kernel)) ggL_at_X3_at
theorem dL_at_0 : decode cL_at 0 = .ok (.aload_n 2, 1) := by decide +kernel
theorem dL_at_1 : decode cL_at 1 = .ok (.iconst 0, 1) := by decide +kernel
theorem dL_at_2 : decode cL_at 2 = .ok (.aload_n 0, 1) := by decide +kernel
theorem dL_at_3 : decode cL_at 3 = .ok (.iload_n 1, 1) := by decide +kernel
theorem dL_at_4 : decode cL_at 4 = .ok (.invokevirtual 26, 3) := by decide +kernel
theorem dL_at_7 : decode cL_at 7 = .ok (.i2l, 1) := by decide +kernel
theorem dL_at_8 : decode cL_at 8 = .ok (.lastore, 1) := by decide +kernel
theorem dL_at_9 : decode cL_at 9 = .ok (.goto 6, 3) := by decide +kernel
theorem dL_at_12 : decode cL_at 12 = .ok (.astore_n 3, 1) := by decide +kernel
theorem dL_at_13 : decode cL_at 13 = .ok (.iconst 1, 1) := by decide +kernel
theorem dL_at_14 : decode cL_at 14 = .ok (.ireturn, 1) := by decide +kernel
theorem dL_at_15 : decode cL_at 15 = .ok (.iconst 0, 1) := by decide +kernel
theorem dL_at_16 : decode cL_at 16 = .ok (.ireturn, 1) := by decide +kernel
set_option maxRecDepth 20000 in
theorem ggL_undo_X3_undo : GoodIn wsL_undo wsX3_undo := goodIn_ca (goodIn_r _ [6, 7, 8, 9, 10, 11, 12, 13, 14, 15, 16, 17, 18, 19, 20, 21, 22, 23, 24, 25, 26, 27, 28, 29, 30, 31, 32, 33, 34, 35, 36, 37, 38, 39, 40, 41, 42, 43] (by decide +kernel) (by decide +kernel)) (goodIn_sub (fun _ h => List.mem_cons_of_mem _ (List.mem_append_right _ h)) (by decide +kernel))
set_option maxRecDepth 20000 in
theorem gL_undo_X3_undo : GoodIn wsL_undo (wsV RL 30 RX3 yX3_undo wsX3_undo) := goodIn_app (goodIn_of _ (by decide +kernel)) ggL_undo_X3_undo
theorem dL_undo_0 : decode cL_undo 0 = .ok (.aload_n 1, 1) := by decide +kernel
theorem dL_undo_1 : decode cL_undo 1 = .ok (.iconst 0, 1) := by decide +kernel
theorem dL_undo_2 : decode cL_undo 2 = .ok (.aload_n 0, 1) := by decide +kernel
theorem dL_undo_3 : decode cL_undo 3 = .ok (.invokevirtual 30, 3) := by decide +kernel
theorem dL_undo_6 : decode cL_undo 6 = .ok (.i2l, 1) := by decide +kernel
theorem dL_undo_7 : decode cL_undo 7 = .ok (.lastore, 1) := by decide +kernel
theorem dL_undo_8 : decode cL_undo 8 = .ok (.goto 6, 3) := by decide +kernel
theorem dL_undo_11 : decode cL_undo 11 = .ok (.astore_n 2, 1) := by decide +kernel
theorem dL_undo_12 : decode cL_undo 12 = .ok (.iconst 1, 1) := by decide +kernel
theorem dL_undo_13 : decode cL_undo 13 = .ok (.ireturn, 1) := by decide +kernel
theorem dL_undo_14 : decode cL_undo 14 = .ok (.iconst 0, 1) := by decide +kernel
theorem dL_undo_15 : decode cL_undo 15 = .ok (.ireturn, 1) := by decide +kernel
set_option maxRecDepth 20000 in
theorem ggL_redo_X3_redo : GoodIn wsL_redo wsX3_redo := goodIn_ca (goodIn_r _ [6, 7, 8, 9, 10, 11, 12, 13, 14, 15, 16, 17, 18, 19, 20, 21, 22, 23, 24, 25, 26, 27, 28, 29, 30, 31, 32, 33, 34, 35, 36, 37, 38, 39, 40, 41, 42, 43] (by decide +kernel) (by decide +kernel)) (goodIn_sub (fun _ h => List.mem_cons_of_mem _ (List.mem_append_right _ h)) (by decide +kernel))
set_option maxRecDepth 20000 in
theorem gL_redo_X3_redo : GoodIn wsL_redo (wsV RL 36 RX3 yX3_redo wsX3_redo) := goodIn_app (goodIn_of _ (by decide +kernel)) ggL_redo_X3_redo
theorem dL_redo_0 : decode cL_redo 0 = .ok (.aload_n 1, 1) := by decide +kernel
theorem dL_redo_1 : decode cL_redo 1 = .ok (.iconst 0, 1) := by decide +kernel
theorem dL_redo_2 : decode cL_redo 2 = .ok (.aload_n 0, 1) := by decide +kernel
theorem dL_redo_3 : decode cL_redo 3 = .ok (.invokevirtual 36, 3) := by decide +kernel
theorem dL_redo_6 : decode cL_redo 6 = .ok (.i2l, 1) := by decide +kernel
theorem dL_redo_7 : decode cL_redo 7 = .ok (.lastore, 1) := by decide +kernel
theorem dL_redo_8 : decode cL_redo 8 = .ok (.goto 6, 3) := by decide +kernel
theorem dL_redo_11 : decode cL_redo 11 = .ok (.astore_n 2, 1) := by decide +kernel
theorem dL_redo_12 : decode cL_redo 12 = .ok (.iconst 1, 1) := by decide +kernel
theorem dL_redo_13 : decode cL_redo 13 = .ok (.ireturn, 1) := by decide +kernel
theorem dL_redo_14 : decode cL_redo 14 = .ok (.iconst 0, 1) := by decide +kernel
theorem dL_redo_15 : decode cL_redo 15 = .ok (.ireturn, 1) := by decide +kernel
set_option maxRecDepth 20000 in
theorem ggL_pattern_X3_pattern : GoodIn wsL_pattern wsX3_pattern := goodIn_ca (goodIn_ca (goodIn_r _ [7, 8, 9, 10, 11, 12, 6, 13, 14, 15, 16, 17, 18, 19, 20, 21, 22, 23, 24, 25, 26, 27, 28, 29, 30, 31, 32, 33] (by decide +kernel) (by decide +kernel)) (goodIn_sub (fun _ h => List.mem_cons_of_mem _ (List.mem_append_left _ (List.mem_append_right _ h))) (by decide +kernel))) (goodIn_sub (fun _ h => List.mem_cons_of_mem _ (List.mem_append_right _ h)) (by decide +kernel))
set_option maxRecDepth 20000 in
theorem gL_pattern_X3_pattern : GoodIn wsL_pattern (wsV RL 39 RX3 yX3_pattern wsX3_pattern) := goodIn_app (goodIn_of _ (by decide +kernel)) ggL_pattern_X3_pattern
theorem dL_pattern_0 : decode cL_pattern 0 = .ok (.aload_n 2, 1) := by decide +kernel
theorem dL_pattern_1 : decode cL_pattern 1 = .ok (.iconst 0, 1) := by decide +kernel
theorem dL_pattern_2 : decode cL_pattern 2 = .ok (.aload_n 0, 1) := by decide +kernel
theorem dL_pattern_3 : decode cL_pattern 3 = .ok (.iload_n 1, 1) := by decide +kernel
theorem dL_pattern_4 : decode cL_pattern 4 = .ok (.invokevirtual 39, 3) := by decide +kernel
theorem dL_pattern_7 : decode cL_pattern 7 = .ok (.i2l, 1) := by decide +kernel
theorem dL_pattern_8 : decode cL_pattern 8 = .ok (.lastore, 1) := by decide +kernel
theorem dL_pattern_9 : decode cL_pattern 9 = .ok (.goto 9, 3) := by decide +kernel
theorem dL_pattern_12 : decode cL_pattern 12 = .ok (.astore_n 3, 1) := by decide +kernel
theorem dL_pattern_13 : decode cL_pattern 13 = .ok (.iconst 1, 1) := by decide +kernel
theorem dL_pattern_14 : decode cL_pattern 14 = .ok (.ireturn, 1) := by decide +kernel
theorem dL_pattern_15 : decode cL_pattern 15 = .ok (.astore_n 3, 1) := by decide +kernel
theorem dL_pattern_16 : decode cL_pattern 16 = .ok (.iconst 2, 1) := by decide +kernel
theorem dL_pattern_17 : decode cL_pattern 17 = .ok (.ireturn, 1) := by decide +kernel
theorem dL_pattern_18 : decode cL_pattern 18 = .ok (.iconst 0, 1) := by decide +kernel
theorem dL_pattern_19 : decode cL_pattern 19 = .ok (.ireturn, 1) := by decide +kernel
set_option maxRecDepth 20000 in
theorem ggL_find_X3_find : GoodIn wsL_find wsX3_find := goodIn_ca (goodIn_r _ [6, 7, 8, 9, 10, 11, 12, 13, 14, 15, 16, 17, 5, 18, 19, 20, 21, 22, 23, 24, 25, 26, 27, 28, 29, 30, 31, 32, 33, 34, 35, 36, 37, 38, 39, 40, 41, 42] (by decide +kernel) (by decide +kernel)) (goodIn_sub (fun _ h => List.mem_cons_of_mem _ (List.mem_append_right _ h)) (by decide +kernel))
set_option maxRecDepth 20000 in
theorem gL_find_X3_find : GoodIn wsL_find (wsV RL 42 RX3 yX3_find wsX3_find) := goodIn_app (goodIn_of _ (by decide +kernel)) ggL_find_X3_find
theorem dL_find_0 : decode cL_find 0 = .ok (.aload_n 2, 1) := by decide +kernel
theorem dL_find_1 : decode cL_find 1 = .ok (.iconst 0, 1) := by decide +kernel
theorem dL_find_2 : decode cL_find 2 = .ok (.aload_n 0, 1) := by decide +kernel
theorem dL_find_3 : decode cL_find 3 = .ok (.iload_n 1, 1) := by decide +kernel
theorem dL_find_4 : decode cL_find 4 = .ok (.invokevirtual 42, 3) := by decide +kernel
theorem dL_find_7 : decode cL_find 7 = .ok (.i2l, 1) := by decide +kernel
theorem dL_find_8 : decode cL_find 8 = .ok (.lastore, 1) := by decide +kernel
theorem dL_find_9 : decode cL_find 9 = .ok (.goto 6, 3) := by decide +kernel
theorem dL_find_12 : decode cL_find 12 = .ok (.astore_n 3, 1) := by decide +kernel
theorem dL_find_13 : decode cL_find 13 = .ok (.iconst 1, 1) := by decide +kernel
theorem dL_find_14 : decode cL_find 14 = .ok (.ireturn, 1) := by decide +kernel
theorem dL_find_15 : decode cL_find 15 = .ok (.iconst 0, 1) := by decide +kernel
theorem dL_find_16 : decode cL_find 16 = .ok (.ireturn, 1) := by decide +kernel
set_option maxRecDepth 20000 in
theorem ggL_replace_X3_replace : GoodIn wsL_replace wsX3_replace := goodIn_ca (goodIn_ca (goodIn_r _ [7, 8, 9, 10, 11, 12, 6, 13, 14, 15, 16, 17, 18, 19, 20, 21, 22, 23, 24, 25, 26, 27, 28, 29, 30, 31, 32, 33, 34, 35, 36, 37, 38, 39, 40, 41, 42, 43, 44, 45, 46, 47, 48, 49, 50, 51, 52, 53, 54, 55, 56, 57, 58, 59, 60, 61, 62, 63, 64, 65, 66, 67, 68, 69, 70, 71, 72, 73, 74, 75, 76, 77, 78, 79, 80, 81, 82, 83, 84, 85, 86] (by decide +kernel) (by decide +kernel)) (goodIn_sub (fun _ h => List.mem_cons_of_mem _ (List.mem_append_left _ (List.mem_append_right _ h))) (by decide +kernel))) (goodIn_sub (fun _ h => List.mem_cons_of_mem _ (List.mem_append_right _ h)) (by decide +kernel))
set_option maxRecDepth 20000 in
theorem gL_replace_X3_replace : GoodIn wsL_replace (wsV RL 45 RX3 yX3_replace wsX3_replace) := goodIn_app (goodIn_of _ (by decide +kernel)) ggL_replace_X3_replace
theorem dL_replace_0 : decode cL_replace 0 = .ok (.aload_n 2, 1) := by decide +kernel
theorem dL_replace_1 : decode cL_replace 1 = .ok (.iconst 0, 1) := by decide +kernel
theorem dL_replace_2 : decode cL_replace 2 = .ok (.aload_n 0, 1) := by decide +kernel
theorem dL_replace_3 : decode cL_replace 3 = .ok (.iload_n 1, 1) := by decide +kernel
theorem dL_replace_4 : decode cL_replace 4 = .ok (.invokevirtual 45, 3) := by decide +kernel
theorem dL_replace_7 : decode cL_replace 7 = .ok (.i2l, 1) := by decide +kernel
theorem dL_replace_8 : decode cL_replace 8 = .ok (.lastore, 1) := by decide +kernel
theorem dL_replace_9 : decode cL_replace 9 = .ok (.goto 9, 3) := by decide +kernel
theorem dL_replace_12 : decode cL_replace 12 = .ok (.astore_n 3, 1) := by decide +kernel
theorem dL_replace_13 : decode cL_replace 13 = .ok (.iconst 1, 1) := by decide +kernel
theorem dL_replace_14 : decode cL_replace 14 = .ok (.ireturn, 1) := by decide +kernel
theorem dL_replace_15 : decode cL_replace 15 = .ok (.astore_n 3, 1) := by decide +kernel
theorem dL_replace_16 : decode cL_replace 16 = .ok (.iconst 2, 1) := by decide +kernel
theorem dL_replace_17 : decode cL_replace 17 = .ok (.ireturn, 1) := by decide +kernel
theorem dL_replace_18 : decode cL_replace 18 = .ok (.iconst 0, 1) := by decide +kernel
theorem dL_replace_19 : decode cL_replace 19 = .ok (.ireturn, 1) := by decide +kernel
set_option maxRecDepth 20000 in
theorem ggL_word_X3_word : GoodIn wsL_word wsX3_word := goodIn_ca (goodIn_r _ [6, 7, 8, 9, 10, 5, 11, 12, 13, 14, 15, 16, 17, 18, 19, 20, 21, 22, 23, 24, 25, 26, 27, 28, 29, 30, 31, 32] (by decide +kernel) (by decide +kernel)) (goodIn_sub (fun _ h => List.mem_cons_of_mem _ (List.mem_append_right _ h)) (by decide +kernel))
set_option maxRecDepth 20000 in
theorem gL_word_X3_word : GoodIn wsL_word (wsV RL 48 RX3 yX3_word wsX3_word) := goodIn_app (goodIn_of _ (by decide +kernel)) ggL_word_X3_word
theorem dL_word_0 : decode cL_word 0 = .ok (.aload_n 2, 1) := by decide +kernel
theorem dL_word_1 : decode cL_word 1 = .ok (.iconst 0, 1) := by decide +kernel
theorem dL_word_2 : decode cL_word 2 = .ok (.aload_n 0, 1) := by decide +kernel
theorem dL_word_3 : decode cL_word 3 = .ok (.iload_n 1, 1) := by decide +kernel
theorem dL_word_4 : decode cL_word 4 = .ok (.invokevirtual 48, 3) := by decide +kernel
theorem dL_word_7 : decode cL_word 7 = .ok (.i2l, 1) := by decide +kernel
theorem dL_word_8 : decode cL_word 8 = .ok (.lastore, 1) := by decide +kernel
theorem dL_word_9 : decode cL_word 9 = .ok (.goto 6, 3) := by decide +kernel
theorem dL_word_12 : decode cL_word 12 = .ok (.astore_n 3, 1) := by decide +kernel
theorem dL_word_13 : decode cL_word 13 = .ok (.iconst 1, 1) := by decide +kernel
theorem dL_word_14 : decode cL_word 14 = .ok (.ireturn, 1) := by decide +kernel
theorem dL_word_15 : decode cL_word 15 = .ok (.iconst 0, 1) := by decide +kernel
theorem dL_word_16 : decode cL_word 16 = .ok (.ireturn, 1) := by decide +kernel
set_option maxRecDepth 20000 in
theorem ggL_poke_X3_poke : GoodIn wsL_poke wsX3_poke := goodIn_ca (goodIn_r _ [6, 7, 8, 9, 10, 5, 11, 12, 13, 14, 15, 16, 17, 18, 19, 20, 21, 22, 23, 24, 25, 26, 27, 28, 29, 30, 31, 32, 33, 34, 35, 36] (by decide +kernel) (by decide +kernel)) (goodIn_sub (fun _ h => List.mem_cons_of_mem _ (List.mem_append_right _ h)) (by decide +kernel))
set_option maxRecDepth 20000 in
theorem gL_poke_X3_poke : GoodIn wsL_poke (wsV RL 51 RX3 yX3_poke wsX3_poke) := goodIn_app (goodIn_of _ (by decide +kernel)) ggL_poke_X3_poke
theorem dL_poke_0 : decode cL_poke 0 = .ok (.aload_n 3, 1) := by decide +kernel
theorem dL_poke_1 : decode cL_poke 1 = .ok (.iconst 0, 1) := by decide +kernel
theorem dL_poke_2 : decode cL_poke 2 = .ok (.aload_n 0, 1) := by decide +kernel
theorem dL_poke_3 : decode cL_poke 3 = .ok (.iload_n 1, 1) := by decide +kernel
theorem dL_poke_4 : decode cL_poke 4 = .ok (.iload_n 2, 1) := by decide +kernel
theorem dL_poke_5 : decode cL_poke 5 = .ok (.invokevirtual 51, 3) := by decide +kernel
theorem dL_poke_8 : decode cL_poke 8 = .ok (.i2l, 1) := by decide +kernel
theorem dL_poke_9 : decode cL_poke 9 = .ok (.lastore, 1) := by decide +kernel
theorem dL_poke_10 : decode cL_poke 10 = .ok (.goto 7, 3) := by decide +kernel
theorem dL_poke_13 : decode cL_poke 13 = .ok (.astore 4, 2) := by decide +kernel
theorem dL_poke_15 : decode cL_poke 15 = .ok (.iconst 1, 1) := by decide +kernel
theorem dL_poke_16 : decode cL_poke 16 = .ok (.ireturn, 1) := by decide +kernel
theorem dL_poke_17 : decode cL_poke 17 = .ok (.iconst 0, 1) := by decide +kernel
theorem dL_poke_18 : decode cL_poke 18 = .ok (.ireturn, 1) := by decide +kernel

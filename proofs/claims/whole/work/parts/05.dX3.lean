set_option maxRecDepth 20000 in
theorem ggX3_init_X0_init : GoodIn wsX3_init wsX0_init := goodIn_r _ [21, 22, 2, 3, 23, 24, 9, 10, 25, 26, 27, 28, 29, 30, 31, 17, 32, 33, 42, 43, 44, 45, 51, 52] (by decide +kernel) (by decide +kernel)
set_option maxRecDepth 20000 in
theorem gX3_init_X0_init : GoodIn wsX3_init (wsX0_init) := ggX3_init_X0_init
set_option maxRecDepth 20000 in
theorem ggX3_init_X2_init : GoodIn wsX3_init wsX2_init := goodIn_r _ [30, 31, 2, 3, 17, 32, 33, 51, 52] (by decide +kernel) (by decide +kernel)
set_option maxRecDepth 20000 in
theorem gX3_init_X2_init : GoodIn wsX3_init (wsX2_init) := ggX3_init_X2_init
set_option maxRecDepth 20000 in
theorem ggX3_init_X1_init : GoodIn wsX3_init wsX1_init := goodIn_r _ [37, 38, 2, 3, 17, 39, 40, 41, 53, 54, 55] (by decide +kernel) (by decide +kernel)
set_option maxRecDepth 20000 in
theorem gX3_init_X1_init : GoodIn wsX3_init (wsX1_init) := ggX3_init_X1_init
theorem dX3_init_0 : decode cX3_init 0 = .ok (.aload_n 0, 1) := by decide +kernel
theorem dX3_init_1 : decode cX3_init 1 = .ok (.invokespecial 1, 3) := by decide +kernel
theorem dX3_init_4 : decode cX3_init 4 = .ok (.aload_n 0, 1) := by decide +kernel
theorem dX3_init_5 : decode cX3_init 5 = .ok (.new 7, 3) := by decide +kernel
theorem dX3_init_8 : decode cX3_init 8 = .ok (.dup, 1) := by decide +kernel
theorem dX3_init_9 : decode cX3_init 9 = .ok (.invokespecial 9, 3) := by decide +kernel
theorem dX3_init_12 : decode cX3_init 12 = .ok (.putfield 10, 3) := by decide +kernel
theorem dX3_init_15 : decode cX3_init 15 = .ok (.aload_n 0, 1) := by decide +kernel
theorem dX3_init_16 : decode cX3_init 16 = .ok (.new 16, 3) := by decide +kernel
theorem dX3_init_19 : decode cX3_init 19 = .ok (.dup, 1) := by decide +kernel
theorem dX3_init_20 : decode cX3_init 20 = .ok (.bipush 16, 2) := by decide +kernel
theorem dX3_init_22 : decode cX3_init 22 = .ok (.invokespecial 18, 3) := by decide +kernel
theorem dX3_init_25 : decode cX3_init 25 = .ok (.putfield 21, 3) := by decide +kernel
theorem dX3_init_28 : decode cX3_init 28 = .ok (.aload_n 0, 1) := by decide +kernel
theorem dX3_init_29 : decode cX3_init 29 = .ok (.new 25, 3) := by decide +kernel
theorem dX3_init_32 : decode cX3_init 32 = .ok (.dup, 1) := by decide +kernel
theorem dX3_init_33 : decode cX3_init 33 = .ok (.invokespecial 27, 3) := by decide +kernel
theorem dX3_init_36 : decode cX3_init 36 = .ok (.putfield 28, 3) := by decide +kernel
theorem dX3_init_39 : decode cX3_init 39 = .ok (.aload_n 0, 1) := by decide +kernel
theorem dX3_init_40 : decode cX3_init 40 = .ok (.new 16, 3) := by decide +kernel
theorem dX3_init_43 : decode cX3_init 43 = .ok (.dup, 1) := by decide +kernel
theorem dX3_init_44 : decode cX3_init 44 = .ok (.sipush 240, 3) := by decide +kernel
theorem dX3_init_47 : decode cX3_init 47 = .ok (.invokespecial 18, 3) := by decide +kernel
theorem dX3_init_50 : decode cX3_init 50 = .ok (.putfield 32, 3) := by decide +kernel
theorem dX3_init_53 : decode cX3_init 53 = .ok (.aload_n 0, 1) := by decide +kernel
theorem dX3_init_54 : decode cX3_init 54 = .ok (.sipush 256, 3) := by decide +kernel
theorem dX3_init_57 : decode cX3_init 57 = .ok (.newarray .int, 2) := by decide +kernel
theorem dX3_init_59 : decode cX3_init 59 = .ok (.putfield 35, 3) := by decide +kernel
theorem dX3_init_62 : decode cX3_init 62 = .ok (.return_, 1) := by decide +kernel
set_option maxRecDepth 20000 in
theorem ggX3_insert_X0_present : GoodIn wsX3_insert wsX0_present := goodIn_r _ [7, 8, 9, 71, 72, 73, 74] (by decide +kernel) (by decide +kernel)
set_option maxRecDepth 20000 in
theorem gX3_insert_X0_present : GoodIn wsX3_insert (wsV RX3 39 RX0 yX0_present wsX0_present) := goodIn_app (goodIn_of _ (by decide +kernel)) ggX3_insert_X0_present
set_option maxRecDepth 20000 in
theorem ggX3_insert_X3_refuseNoPlace : GoodIn wsX3_insert wsX3_refuseNoPlace := goodIn_ca (goodIn_r _ [13, 14, 15, 16, 17, 18, 19, 20, 21, 75, 76] (by decide +kernel) (by decide +kernel)) (goodIn_sub (fun _ h => List.mem_cons_of_mem _ (List.mem_append_left _ (List.mem_append_left _ (List.mem_append_right _ h)))) (by decide +kernel))
set_option maxRecDepth 20000 in
theorem gX3_insert_X3_refuseNoPlace : GoodIn wsX3_insert (va_wsS RX3 43 yX3_refuseNoPlace wsX3_refuseNoPlace) := goodIn_app (goodIn_of _ (by decide +kernel)) ggX3_insert_X3_refuseNoPlace
set_option maxRecDepth 20000 in
theorem ggX3_insert_X3_refuseNoCharacter : GoodIn wsX3_insert wsX3_refuseNoCharacter := goodIn_ca (goodIn_r _ [24, 25, 26] (by decide +kernel) (by decide +kernel)) (goodIn_sub (fun _ h => List.mem_cons_of_mem _ (List.mem_append_left _ (List.mem_append_right _ h))) (by decide +kernel))
set_option maxRecDepth 20000 in
theorem gX3_insert_X3_refuseNoCharacter : GoodIn wsX3_insert (va_wsS RX3 47 yX3_refuseNoCharacter wsX3_refuseNoCharacter) := goodIn_app (goodIn_of _ (by decide +kernel)) ggX3_insert_X3_refuseNoCharacter
set_option maxRecDepth 20000 in
theorem ggX3_insert_X3_refuseTooLong : GoodIn wsX3_insert wsX3_refuseTooLong := goodIn_ca (goodIn_r _ [29, 30, 31, 16, 17, 18, 19, 20, 21, 75, 76] (by decide +kernel) (by decide +kernel)) (goodIn_sub (fun _ h => List.mem_cons_of_mem _ (List.mem_append_right _ h)) (by decide +kernel))
set_option maxRecDepth 20000 in
theorem gX3_insert_X3_refuseTooLong : GoodIn wsX3_insert (va_wsS RX3 50 yX3_refuseTooLong wsX3_refuseTooLong) := goodIn_app (goodIn_of _ (by decide +kernel)) ggX3_insert_X3_refuseTooLong
set_option maxRecDepth 20000 in
theorem ggX3_insert_X2_empty : GoodIn wsX3_insert wsX2_empty := goodIn_r _ [35, 21, 75, 76] (by decide +kernel) (by decide +kernel)
set_option maxRecDepth 20000 in
theorem gX3_insert_X2_empty : GoodIn wsX3_insert (wsV RX3 53 RX2 yX2_empty wsX2_empty) := goodIn_app (goodIn_of _ (by decide +kernel)) ggX3_insert_X2_empty
set_option maxRecDepth 20000 in
theorem ggX3_insert_X2_addPart : GoodIn wsX3_insert wsX2_addPart := goodIn_r _ [39, 40, 21, 41, 42, 43, 44, 75, 76] (by decide +kernel) (by decide +kernel)
set_option maxRecDepth 20000 in
theorem gX3_insert_X2_addPart : GoodIn wsX3_insert (wsV RX3 56 RX2 yX2_addPart wsX2_addPart) := goodIn_app (goodIn_of _ (by decide +kernel)) ggX3_insert_X2_addPart
set_option maxRecDepth 20000 in
theorem ggX3_insert_X2_add : GoodIn wsX3_insert wsX2_add := goodIn_r _ [48, 40, 21, 75, 76] (by decide +kernel) (by decide +kernel)
set_option maxRecDepth 20000 in
theorem gX3_insert_X2_add : GoodIn wsX3_insert (wsV RX3 60 RX2 yX2_add wsX2_add) := goodIn_app (goodIn_of _ (by decide +kernel)) ggX3_insert_X2_add
set_option maxRecDepth 20000 in
theorem ggX3_insert_X2_size : GoodIn wsX3_insert wsX2_size := goodIn_r _ [20, 21, 75, 76] (by decide +kernel) (by decide +kernel)
set_option maxRecDepth 20000 in
theorem gX3_insert_X2_size : GoodIn wsX3_insert (wsV RX3 63 RX2 yX2_size wsX2_size) := goodIn_app (goodIn_of _ (by decide +kernel)) ggX3_insert_X2_size
set_option maxRecDepth 20000 in
theorem ggX3_insert_X3_keepDraft : GoodIn wsX3_insert wsX3_keepDraft := goodIn_r _ [52, 1, 2, 53, 54, 55, 6, 56, 9, 8, 57, 58, 59, 60, 61, 62, 63, 33, 34, 19, 35, 21, 64, 17, 18, 20, 65, 37, 38, 39, 40, 41, 42, 43, 44, 16, 66, 67, 68, 69, 70, 71, 72, 73, 74, 75, 76] (by decide +kernel) (by decide +kernel)
set_option maxRecDepth 20000 in
theorem gX3_insert_X3_keepDraft : GoodIn wsX3_insert (wsV RX3 67 RX3 yX3_keepDraft wsX3_keepDraft) := goodIn_app (goodIn_of _ (by decide +kernel)) ggX3_insert_X3_keepDraft
theorem dX3_insert_0 : decode cX3_insert 0 = .ok (.aload_n 0, 1) := by decide +kernel
theorem dX3_insert_1 : decode cX3_insert 1 = .ok (.getfield 10, 3) := by decide +kernel
theorem dX3_insert_4 : decode cX3_insert 4 = .ok (.invokevirtual 39, 3) := by decide +kernel
theorem dX3_insert_7 : decode cX3_insert 7 = .ok (.astore_n 3, 1) := by decide +kernel
theorem dX3_insert_8 : decode cX3_insert 8 = .ok (.iload_n 1, 1) := by decide +kernel
theorem dX3_insert_9 : decode cX3_insert 9 = .ok (.aload_n 3, 1) := by decide +kernel
theorem dX3_insert_10 : decode cX3_insert 10 = .ok (.invokestatic 43, 3) := by decide +kernel
theorem dX3_insert_13 : decode cX3_insert 13 = .ok (.iload_n 2, 1) := by decide +kernel
theorem dX3_insert_14 : decode cX3_insert 14 = .ok (.invokestatic 47, 3) := by decide +kernel
theorem dX3_insert_17 : decode cX3_insert 17 = .ok (.iconst 1, 1) := by decide +kernel
theorem dX3_insert_18 : decode cX3_insert 18 = .ok (.aload_n 3, 1) := by decide +kernel
theorem dX3_insert_19 : decode cX3_insert 19 = .ok (.invokestatic 50, 3) := by decide +kernel
theorem dX3_insert_22 : decode cX3_insert 22 = .ok (.aload_n 0, 1) := by decide +kernel
theorem dX3_insert_23 : decode cX3_insert 23 = .ok (.getfield 32, 3) := by decide +kernel
theorem dX3_insert_26 : decode cX3_insert 26 = .ok (.invokevirtual 53, 3) := by decide +kernel
theorem dX3_insert_29 : decode cX3_insert 29 = .ok (.aload_n 0, 1) := by decide +kernel
theorem dX3_insert_30 : decode cX3_insert 30 = .ok (.getfield 32, 3) := by decide +kernel
theorem dX3_insert_33 : decode cX3_insert 33 = .ok (.aload_n 3, 1) := by decide +kernel
theorem dX3_insert_34 : decode cX3_insert 34 = .ok (.iconst 0, 1) := by decide +kernel
theorem dX3_insert_35 : decode cX3_insert 35 = .ok (.iload_n 1, 1) := by decide +kernel
theorem dX3_insert_36 : decode cX3_insert 36 = .ok (.invokevirtual 56, 3) := by decide +kernel
theorem dX3_insert_39 : decode cX3_insert 39 = .ok (.aload_n 0, 1) := by decide +kernel
theorem dX3_insert_40 : decode cX3_insert 40 = .ok (.getfield 32, 3) := by decide +kernel
theorem dX3_insert_43 : decode cX3_insert 43 = .ok (.iload_n 2, 1) := by decide +kernel
theorem dX3_insert_44 : decode cX3_insert 44 = .ok (.invokevirtual 60, 3) := by decide +kernel
theorem dX3_insert_47 : decode cX3_insert 47 = .ok (.aload_n 0, 1) := by decide +kernel
theorem dX3_insert_48 : decode cX3_insert 48 = .ok (.getfield 32, 3) := by decide +kernel
theorem dX3_insert_51 : decode cX3_insert 51 = .ok (.aload_n 3, 1) := by decide +kernel
theorem dX3_insert_52 : decode cX3_insert 52 = .ok (.iload_n 1, 1) := by decide +kernel
theorem dX3_insert_53 : decode cX3_insert 53 = .ok (.aload_n 3, 1) := by decide +kernel
theorem dX3_insert_54 : decode cX3_insert 54 = .ok (.invokevirtual 63, 3) := by decide +kernel
theorem dX3_insert_57 : decode cX3_insert 57 = .ok (.invokevirtual 56, 3) := by decide +kernel
theorem dX3_insert_60 : decode cX3_insert 60 = .ok (.aload_n 0, 1) := by decide +kernel
theorem dX3_insert_61 : decode cX3_insert 61 = .ok (.invokevirtual 67, 3) := by decide +kernel
theorem dX3_insert_64 : decode cX3_insert 64 = .ok (.ireturn, 1) := by decide +kernel
set_option maxRecDepth 20000 in
theorem ggX3_delete_X0_present : GoodIn wsX3_delete wsX0_present := goodIn_r _ [7, 8, 9, 62, 63, 64, 65] (by decide +kernel) (by decide +kernel)
set_option maxRecDepth 20000 in
theorem gX3_delete_X0_present : GoodIn wsX3_delete (wsV RX3 39 RX0 yX0_present wsX0_present) := goodIn_app (goodIn_of _ (by decide +kernel)) ggX3_delete_X0_present
set_option maxRecDepth 20000 in
theorem ggX3_delete_X3_refuseNoPlace : GoodIn wsX3_delete wsX3_refuseNoPlace := goodIn_ca (goodIn_r _ [13, 14, 15, 16, 17, 18, 19, 20, 21, 66, 67] (by decide +kernel) (by decide +kernel)) (goodIn_sub (fun _ h => List.mem_cons_of_mem _ (List.mem_append_left _ (List.mem_append_right _ h))) (by decide +kernel))
set_option maxRecDepth 20000 in
theorem gX3_delete_X3_refuseNoPlace : GoodIn wsX3_delete (va_wsS RX3 43 yX3_refuseNoPlace wsX3_refuseNoPlace) := goodIn_app (goodIn_of _ (by decide +kernel)) ggX3_delete_X3_refuseNoPlace
set_option maxRecDepth 20000 in
theorem ggX3_delete_X3_refuseNoPart : GoodIn wsX3_delete wsX3_refuseNoPart := goodIn_ca (goodIn_r _ [24, 25, 26, 16, 17, 18, 19, 20, 21, 66, 67] (by decide +kernel) (by decide +kernel)) (goodIn_sub (fun _ h => List.mem_cons_of_mem _ (List.mem_append_right _ h)) (by decide +kernel))
set_option maxRecDepth 20000 in
theorem gX3_delete_X3_refuseNoPart : GoodIn wsX3_delete (va_wsS RX3 70 yX3_refuseNoPart wsX3_refuseNoPart) := goodIn_app (goodIn_of _ (by decide +kernel)) ggX3_delete_X3_refuseNoPart
set_option maxRecDepth 20000 in
theorem ggX3_delete_X2_empty : GoodIn wsX3_delete wsX2_empty := goodIn_r _ [30, 21, 66, 67] (by decide +kernel) (by decide +kernel)
set_option maxRecDepth 20000 in
theorem gX3_delete_X2_empty : GoodIn wsX3_delete (wsV RX3 53 RX2 yX2_empty wsX2_empty) := goodIn_app (goodIn_of _ (by decide +kernel)) ggX3_delete_X2_empty
set_option maxRecDepth 20000 in
theorem ggX3_delete_X2_addPart : GoodIn wsX3_delete wsX2_addPart := goodIn_r _ [34, 35, 21, 36, 37, 38, 39, 66, 67] (by decide +kernel) (by decide +kernel)
set_option maxRecDepth 20000 in
theorem gX3_delete_X2_addPart : GoodIn wsX3_delete (wsV RX3 56 RX2 yX2_addPart wsX2_addPart) := goodIn_app (goodIn_of _ (by decide +kernel)) ggX3_delete_X2_addPart
set_option maxRecDepth 20000 in
theorem ggX3_delete_X2_size : GoodIn wsX3_delete wsX2_size := goodIn_r _ [20, 21, 66, 67] (by decide +kernel) (by decide +kernel)
set_option maxRecDepth 20000 in
theorem gX3_delete_X2_size : GoodIn wsX3_delete (wsV RX3 63 RX2 yX2_size wsX2_size) := goodIn_app (goodIn_of _ (by decide +kernel)) ggX3_delete_X2_size
set_option maxRecDepth 20000 in
theorem ggX3_delete_X3_keepDraft : GoodIn wsX3_delete wsX3_keepDraft := goodIn_r _ [43, 1, 2, 44, 45, 46, 6, 47, 9, 8, 48, 49, 50, 51, 52, 53, 54, 28, 29, 19, 30, 21, 55, 17, 18, 20, 56, 32, 33, 34, 35, 36, 37, 38, 39, 16, 57, 58, 59, 60, 61, 62, 63, 64, 65, 66, 67] (by decide +kernel) (by decide +kernel)
set_option maxRecDepth 20000 in
theorem gX3_delete_X3_keepDraft : GoodIn wsX3_delete (wsV RX3 67 RX3 yX3_keepDraft wsX3_keepDraft) := goodIn_app (goodIn_of _ (by decide +kernel)) ggX3_delete_X3_keepDraft
theorem dX3_delete_0 : decode cX3_delete 0 = .ok (.aload_n 0, 1) := by decide +kernel
theorem dX3_delete_1 : decode cX3_delete 1 = .ok (.getfield 10, 3) := by decide +kernel
theorem dX3_delete_4 : decode cX3_delete 4 = .ok (.invokevirtual 39, 3) := by decide +kernel
theorem dX3_delete_7 : decode cX3_delete 7 = .ok (.astore_n 3, 1) := by decide +kernel
theorem dX3_delete_8 : decode cX3_delete 8 = .ok (.iload_n 1, 1) := by decide +kernel
theorem dX3_delete_9 : decode cX3_delete 9 = .ok (.aload_n 3, 1) := by decide +kernel
theorem dX3_delete_10 : decode cX3_delete 10 = .ok (.invokestatic 43, 3) := by decide +kernel
theorem dX3_delete_13 : decode cX3_delete 13 = .ok (.iload_n 1, 1) := by decide +kernel
theorem dX3_delete_14 : decode cX3_delete 14 = .ok (.iload_n 2, 1) := by decide +kernel
theorem dX3_delete_15 : decode cX3_delete 15 = .ok (.aload_n 3, 1) := by decide +kernel
theorem dX3_delete_16 : decode cX3_delete 16 = .ok (.invokestatic 70, 3) := by decide +kernel
theorem dX3_delete_19 : decode cX3_delete 19 = .ok (.aload_n 0, 1) := by decide +kernel
theorem dX3_delete_20 : decode cX3_delete 20 = .ok (.getfield 32, 3) := by decide +kernel
theorem dX3_delete_23 : decode cX3_delete 23 = .ok (.invokevirtual 53, 3) := by decide +kernel
theorem dX3_delete_26 : decode cX3_delete 26 = .ok (.aload_n 0, 1) := by decide +kernel
theorem dX3_delete_27 : decode cX3_delete 27 = .ok (.getfield 32, 3) := by decide +kernel
theorem dX3_delete_30 : decode cX3_delete 30 = .ok (.aload_n 3, 1) := by decide +kernel
theorem dX3_delete_31 : decode cX3_delete 31 = .ok (.iconst 0, 1) := by decide +kernel
theorem dX3_delete_32 : decode cX3_delete 32 = .ok (.iload_n 1, 1) := by decide +kernel
theorem dX3_delete_33 : decode cX3_delete 33 = .ok (.invokevirtual 56, 3) := by decide +kernel
theorem dX3_delete_36 : decode cX3_delete 36 = .ok (.aload_n 0, 1) := by decide +kernel
theorem dX3_delete_37 : decode cX3_delete 37 = .ok (.getfield 32, 3) := by decide +kernel
theorem dX3_delete_40 : decode cX3_delete 40 = .ok (.aload_n 3, 1) := by decide +kernel
theorem dX3_delete_41 : decode cX3_delete 41 = .ok (.iload_n 1, 1) := by decide +kernel
theorem dX3_delete_42 : decode cX3_delete 42 = .ok (.iload_n 2, 1) := by decide +kernel
theorem dX3_delete_43 : decode cX3_delete 43 = .ok (.iadd, 1) := by decide +kernel
theorem dX3_delete_44 : decode cX3_delete 44 = .ok (.aload_n 3, 1) := by decide +kernel
theorem dX3_delete_45 : decode cX3_delete 45 = .ok (.invokevirtual 63, 3) := by decide +kernel
theorem dX3_delete_48 : decode cX3_delete 48 = .ok (.invokevirtual 56, 3) := by decide +kernel
theorem dX3_delete_51 : decode cX3_delete 51 = .ok (.aload_n 0, 1) := by decide +kernel
theorem dX3_delete_52 : decode cX3_delete 52 = .ok (.invokevirtual 67, 3) := by decide +kernel
theorem dX3_delete_55 : decode cX3_delete 55 = .ok (.ireturn, 1) := by decide +kernel
set_option maxRecDepth 20000 in
theorem ggX3_copy_X0_present : GoodIn wsX3_copy wsX0_present := goodIn_r _ [7, 8, 9, 67, 68, 69, 70] (by decide +kernel) (by decide +kernel)
set_option maxRecDepth 20000 in
theorem gX3_copy_X0_present : GoodIn wsX3_copy (wsV RX3 39 RX0 yX0_present wsX0_present) := goodIn_app (goodIn_of _ (by decide +kernel)) ggX3_copy_X0_present
set_option maxRecDepth 20000 in
theorem ggX3_copy_X3_refuseNoPlace : GoodIn wsX3_copy wsX3_refuseNoPlace := goodIn_ca (goodIn_r _ [13, 14, 15, 16, 17, 18, 19, 20, 21, 71, 72] (by decide +kernel) (by decide +kernel)) (goodIn_sub (fun _ h => List.mem_cons_of_mem _ (List.mem_append_left _ (List.mem_append_left _ (List.mem_append_right _ h)))) (by decide +kernel))
set_option maxRecDepth 20000 in
theorem gX3_copy_X3_refuseNoPlace : GoodIn wsX3_copy (va_wsS RX3 43 yX3_refuseNoPlace wsX3_refuseNoPlace) := goodIn_app (goodIn_of _ (by decide +kernel)) ggX3_copy_X3_refuseNoPlace
set_option maxRecDepth 20000 in
theorem ggX3_copy_X3_refuseNoPart : GoodIn wsX3_copy wsX3_refuseNoPart := goodIn_ca (goodIn_r _ [24, 25, 26, 16, 17, 18, 19, 20, 21, 71, 72] (by decide +kernel) (by decide +kernel)) (goodIn_sub (fun _ h => List.mem_cons_of_mem _ (List.mem_append_left _ (List.mem_append_right _ h))) (by decide +kernel))
set_option maxRecDepth 20000 in
theorem gX3_copy_X3_refuseNoPart : GoodIn wsX3_copy (va_wsS RX3 70 yX3_refuseNoPart wsX3_refuseNoPart) := goodIn_app (goodIn_of _ (by decide +kernel)) ggX3_copy_X3_refuseNoPart
set_option maxRecDepth 20000 in
theorem ggX3_copy_X3_refuseTooLong : GoodIn wsX3_copy wsX3_refuseTooLong := goodIn_ca (goodIn_r _ [29, 30, 31, 16, 17, 18, 19, 20, 21, 71, 72] (by decide +kernel) (by decide +kernel)) (goodIn_sub (fun _ h => List.mem_cons_of_mem _ (List.mem_append_right _ h)) (by decide +kernel))
set_option maxRecDepth 20000 in
theorem gX3_copy_X3_refuseTooLong : GoodIn wsX3_copy (va_wsS RX3 50 yX3_refuseTooLong wsX3_refuseTooLong) := goodIn_app (goodIn_of _ (by decide +kernel)) ggX3_copy_X3_refuseTooLong
set_option maxRecDepth 20000 in
theorem ggX3_copy_X2_empty : GoodIn wsX3_copy wsX2_empty := goodIn_r _ [35, 21, 71, 72] (by decide +kernel) (by decide +kernel)
set_option maxRecDepth 20000 in
theorem gX3_copy_X2_empty : GoodIn wsX3_copy (wsV RX3 53 RX2 yX2_empty wsX2_empty) := goodIn_app (goodIn_of _ (by decide +kernel)) ggX3_copy_X2_empty
set_option maxRecDepth 20000 in
theorem ggX3_copy_X2_addPart : GoodIn wsX3_copy wsX2_addPart := goodIn_r _ [39, 40, 21, 41, 42, 43, 44, 71, 72] (by decide +kernel) (by decide +kernel)
set_option maxRecDepth 20000 in
theorem gX3_copy_X2_addPart : GoodIn wsX3_copy (wsV RX3 56 RX2 yX2_addPart wsX2_addPart) := goodIn_app (goodIn_of _ (by decide +kernel)) ggX3_copy_X2_addPart
set_option maxRecDepth 20000 in
theorem ggX3_copy_X2_size : GoodIn wsX3_copy wsX2_size := goodIn_r _ [20, 21, 71, 72] (by decide +kernel) (by decide +kernel)
set_option maxRecDepth 20000 in
theorem gX3_copy_X2_size : GoodIn wsX3_copy (wsV RX3 63 RX2 yX2_size wsX2_size) := goodIn_app (goodIn_of _ (by decide +kernel)) ggX3_copy_X2_size
set_option maxRecDepth 20000 in
theorem ggX3_copy_X3_keepDraft : GoodIn wsX3_copy wsX3_keepDraft := goodIn_r _ [48, 1, 2, 49, 50, 51, 6, 52, 9, 8, 53, 54, 55, 56, 57, 58, 59, 33, 34, 19, 35, 21, 60, 17, 18, 20, 61, 37, 38, 39, 40, 41, 42, 43, 44, 16, 62, 63, 64, 65, 66, 67, 68, 69, 70, 71, 72] (by decide +kernel) (by decide +kernel)
set_option maxRecDepth 20000 in
theorem gX3_copy_X3_keepDraft : GoodIn wsX3_copy (wsV RX3 67 RX3 yX3_keepDraft wsX3_keepDraft) := goodIn_app (goodIn_of _ (by decide +kernel)) ggX3_copy_X3_keepDraft
theorem dX3_copy_0 : decode cX3_copy 0 = .ok (.aload_n 0, 1) := by decide +kernel
theorem dX3_copy_1 : decode cX3_copy 1 = .ok (.getfield 10, 3) := by decide +kernel
theorem dX3_copy_4 : decode cX3_copy 4 = .ok (.invokevirtual 39, 3) := by decide +kernel
theorem dX3_copy_7 : decode cX3_copy 7 = .ok (.astore 4, 2) := by decide +kernel
theorem dX3_copy_9 : decode cX3_copy 9 = .ok (.iload_n 1, 1) := by decide +kernel
theorem dX3_copy_10 : decode cX3_copy 10 = .ok (.aload 4, 2) := by decide +kernel
theorem dX3_copy_12 : decode cX3_copy 12 = .ok (.invokestatic 43, 3) := by decide +kernel
theorem dX3_copy_15 : decode cX3_copy 15 = .ok (.iload_n 3, 1) := by decide +kernel
theorem dX3_copy_16 : decode cX3_copy 16 = .ok (.aload 4, 2) := by decide +kernel
theorem dX3_copy_18 : decode cX3_copy 18 = .ok (.invokestatic 43, 3) := by decide +kernel
theorem dX3_copy_21 : decode cX3_copy 21 = .ok (.iload_n 1, 1) := by decide +kernel
theorem dX3_copy_22 : decode cX3_copy 22 = .ok (.iload_n 2, 1) := by decide +kernel
theorem dX3_copy_23 : decode cX3_copy 23 = .ok (.aload 4, 2) := by decide +kernel
theorem dX3_copy_25 : decode cX3_copy 25 = .ok (.invokestatic 70, 3) := by decide +kernel
theorem dX3_copy_28 : decode cX3_copy 28 = .ok (.iload_n 2, 1) := by decide +kernel
theorem dX3_copy_29 : decode cX3_copy 29 = .ok (.aload 4, 2) := by decide +kernel
theorem dX3_copy_31 : decode cX3_copy 31 = .ok (.invokestatic 50, 3) := by decide +kernel
theorem dX3_copy_34 : decode cX3_copy 34 = .ok (.aload_n 0, 1) := by decide +kernel
theorem dX3_copy_35 : decode cX3_copy 35 = .ok (.getfield 32, 3) := by decide +kernel
theorem dX3_copy_38 : decode cX3_copy 38 = .ok (.invokevirtual 53, 3) := by decide +kernel
theorem dX3_copy_41 : decode cX3_copy 41 = .ok (.aload_n 0, 1) := by decide +kernel
theorem dX3_copy_42 : decode cX3_copy 42 = .ok (.getfield 32, 3) := by decide +kernel
theorem dX3_copy_45 : decode cX3_copy 45 = .ok (.aload 4, 2) := by decide +kernel
theorem dX3_copy_47 : decode cX3_copy 47 = .ok (.iconst 0, 1) := by decide +kernel
theorem dX3_copy_48 : decode cX3_copy 48 = .ok (.iload_n 3, 1) := by decide +kernel
theorem dX3_copy_49 : decode cX3_copy 49 = .ok (.invokevirtual 56, 3) := by decide +kernel
theorem dX3_copy_52 : decode cX3_copy 52 = .ok (.aload_n 0, 1) := by decide +kernel
theorem dX3_copy_53 : decode cX3_copy 53 = .ok (.getfield 32, 3) := by decide +kernel
theorem dX3_copy_56 : decode cX3_copy 56 = .ok (.aload 4, 2) := by decide +kernel
theorem dX3_copy_58 : decode cX3_copy 58 = .ok (.iload_n 1, 1) := by decide +kernel
theorem dX3_copy_59 : decode cX3_copy 59 = .ok (.iload_n 1, 1) := by decide +kernel
theorem dX3_copy_60 : decode cX3_copy 60 = .ok (.iload_n 2, 1) := by decide +kernel
theorem dX3_copy_61 : decode cX3_copy 61 = .ok (.iadd, 1) := by decide +kernel
theorem dX3_copy_62 : decode cX3_copy 62 = .ok (.invokevirtual 56, 3) := by decide +kernel
theorem dX3_copy_65 : decode cX3_copy 65 = .ok (.aload_n 0, 1) := by decide +kernel
theorem dX3_copy_66 : decode cX3_copy 66 = .ok (.getfield 32, 3) := by decide +kernel
theorem dX3_copy_69 : decode cX3_copy 69 = .ok (.aload 4, 2) := by decide +kernel
theorem dX3_copy_71 : decode cX3_copy 71 = .ok (.iload_n 3, 1) := by decide +kernel
theorem dX3_copy_72 : decode cX3_copy 72 = .ok (.aload 4, 2) := by decide +kernel
theorem dX3_copy_74 : decode cX3_copy 74 = .ok (.invokevirtual 63, 3) := by decide +kernel
theorem dX3_copy_77 : decode cX3_copy 77 = .ok (.invokevirtual 56, 3) := by decide +kernel
theorem dX3_copy_80 : decode cX3_copy 80 = .ok (.aload_n 0, 1) := by decide +kernel
theorem dX3_copy_81 : decode cX3_copy 81 = .ok (.invokevirtual 67, 3) := by decide +kernel
theorem dX3_copy_84 : decode cX3_copy 84 = .ok (.ireturn, 1) := by decide +kernel
set_option maxRecDepth 20000 in
theorem ggX3_at_X0_present : GoodIn wsX3_at wsX0_present := goodIn_r _ [8, 9, 10, 27, 28, 29, 30] (by decide +kernel) (by decide +kernel)
set_option maxRecDepth 20000 in
theorem gX3_at_X0_present : GoodIn wsX3_at (wsV RX3 39 RX0 yX0_present wsX0_present) := goodIn_app (goodIn_of _ (by decide +kernel)) ggX3_at_X0_present
set_option maxRecDepth 20000 in
theorem ggX3_at_X2_size : GoodIn wsX3_at wsX2_size := goodIn_r _ [15, 16, 31, 32] (by decide +kernel) (by decide +kernel)
set_option maxRecDepth 20000 in
theorem gX3_at_X2_size : GoodIn wsX3_at (wsV RX3 63 RX2 yX2_size wsX2_size) := goodIn_app (goodIn_of _ (by decide +kernel)) ggX3_at_X2_size
set_option maxRecDepth 20000 in
theorem ggX3_at_X2_get : GoodIn wsX3_at wsX2_get := goodIn_r _ [20, 21, 31, 32] (by decide +kernel) (by decide +kernel)
set_option maxRecDepth 20000 in
theorem gX3_at_X2_get : GoodIn wsX3_at (wsV RX3 81 RX2 yX2_get wsX2_get) := goodIn_app (goodIn_of _ (by decide +kernel)) ggX3_at_X2_get
theorem dX3_at_0 : decode cX3_at 0 = .ok (.aload_n 0, 1) := by decide +kernel
theorem dX3_at_1 : decode cX3_at 1 = .ok (.getfield 10, 3) := by decide +kernel
theorem dX3_at_4 : decode cX3_at 4 = .ok (.invokevirtual 39, 3) := by decide +kernel
theorem dX3_at_7 : decode cX3_at 7 = .ok (.astore_n 2, 1) := by decide +kernel
theorem dX3_at_8 : decode cX3_at 8 = .ok (.iload_n 1, 1) := by decide +kernel
theorem dX3_at_9 : decode cX3_at 9 = .ok (.ifCond .lt 11, 3) := by decide +kernel
theorem dX3_at_12 : decode cX3_at 12 = .ok (.iload_n 1, 1) := by decide +kernel
theorem dX3_at_13 : decode cX3_at 13 = .ok (.aload_n 2, 1) := by decide +kernel
theorem dX3_at_14 : decode cX3_at 14 = .ok (.invokevirtual 63, 3) := by decide +kernel
theorem dX3_at_17 : decode cX3_at 17 = .ok (.if_icmp .lt 13, 3) := by decide +kernel
theorem dX3_at_20 : decode cX3_at 20 = .ok (.new 74, 3) := by decide +kernel
theorem dX3_at_23 : decode cX3_at 23 = .ok (.dup, 1) := by decide +kernel
theorem dX3_at_24 : decode cX3_at 24 = .ok (.ldc 76, 2) := by decide +kernel
theorem dX3_at_26 : decode cX3_at 26 = .ok (.invokespecial 78, 3) := by decide +kernel
theorem dX3_at_29 : decode cX3_at 29 = .ok (.athrow, 1) := by decide +kernel
theorem dX3_at_30 : decode cX3_at 30 = .ok (.aload_n 2, 1) := by decide +kernel
theorem dX3_at_31 : decode cX3_at 31 = .ok (.iload_n 1, 1) := by decide +kernel
theorem dX3_at_32 : decode cX3_at 32 = .ok (.invokevirtual 81, 3) := by decide +kernel
theorem dX3_at_35 : decode cX3_at 35 = .ok (.ireturn, 1) := by decide +kernel
set_option maxRecDepth 20000 in
theorem ggX3_undo_X0_pastSize : GoodIn wsX3_undo wsX0_pastSize := goodIn_r _ [8, 9, 32, 33, 34, 35] (by decide +kernel) (by decide +kernel)
set_option maxRecDepth 20000 in
theorem gX3_undo_X0_pastSize : GoodIn wsX3_undo (wsV RX3 85 RX0 yX0_pastSize wsX0_pastSize) := goodIn_app (goodIn_of _ (by decide +kernel)) ggX3_undo_X0_pastSize
set_option maxRecDepth 20000 in
theorem ggX3_undo_X0_stepBack : GoodIn wsX3_undo wsX0_stepBack := goodIn_r _ [13, 14, 9, 15, 32, 33, 34, 35] (by decide +kernel) (by decide +kernel)
set_option maxRecDepth 20000 in
theorem gX3_undo_X0_stepBack : GoodIn wsX3_undo (wsV RX3 93 RX0 yX0_stepBack wsX0_stepBack) := goodIn_app (goodIn_of _ (by decide +kernel)) ggX3_undo_X0_stepBack
set_option maxRecDepth 20000 in
theorem ggX3_undo_X0_present : GoodIn wsX3_undo wsX0_present := goodIn_r _ [19, 20, 14, 32, 33, 34, 35] (by decide +kernel) (by decide +kernel)
set_option maxRecDepth 20000 in
theorem gX3_undo_X0_present : GoodIn wsX3_undo (wsV RX3 39 RX0 yX0_present wsX0_present) := goodIn_app (goodIn_of _ (by decide +kernel)) ggX3_undo_X0_present
set_option maxRecDepth 20000 in
theorem ggX3_undo_X2_size : GoodIn wsX3_undo wsX2_size := goodIn_r _ [25, 26, 36, 37] (by decide +kernel) (by decide +kernel)
set_option maxRecDepth 20000 in
theorem gX3_undo_X2_size : GoodIn wsX3_undo (wsV RX3 63 RX2 yX2_size wsX2_size) := goodIn_app (goodIn_of _ (by decide +kernel)) ggX3_undo_X2_size
theorem dX3_undo_0 : decode cX3_undo 0 = .ok (.aload_n 0, 1) := by decide +kernel
theorem dX3_undo_1 : decode cX3_undo 1 = .ok (.getfield 10, 3) := by decide +kernel
theorem dX3_undo_4 : decode cX3_undo 4 = .ok (.invokevirtual 85, 3) := by decide +kernel
theorem dX3_undo_7 : decode cX3_undo 7 = .ok (.ifCond .ne 13, 3) := by decide +kernel
theorem dX3_undo_10 : decode cX3_undo 10 = .ok (.new 88, 3) := by decide +kernel
theorem dX3_undo_13 : decode cX3_undo 13 = .ok (.dup, 1) := by decide +kernel
theorem dX3_undo_14 : decode cX3_undo 14 = .ok (.ldc 90, 2) := by decide +kernel
theorem dX3_undo_16 : decode cX3_undo 16 = .ok (.invokespecial 92, 3) := by decide +kernel
theorem dX3_undo_19 : decode cX3_undo 19 = .ok (.athrow, 1) := by decide +kernel
theorem dX3_undo_20 : decode cX3_undo 20 = .ok (.aload_n 0, 1) := by decide +kernel
theorem dX3_undo_21 : decode cX3_undo 21 = .ok (.getfield 10, 3) := by decide +kernel
theorem dX3_undo_24 : decode cX3_undo 24 = .ok (.invokevirtual 93, 3) := by decide +kernel
theorem dX3_undo_27 : decode cX3_undo 27 = .ok (.aload_n 0, 1) := by decide +kernel
theorem dX3_undo_28 : decode cX3_undo 28 = .ok (.getfield 10, 3) := by decide +kernel
theorem dX3_undo_31 : decode cX3_undo 31 = .ok (.invokevirtual 39, 3) := by decide +kernel
theorem dX3_undo_34 : decode cX3_undo 34 = .ok (.invokevirtual 63, 3) := by decide +kernel
theorem dX3_undo_37 : decode cX3_undo 37 = .ok (.ireturn, 1) := by decide +kernel
set_option maxRecDepth 20000 in
theorem ggX3_redo_X0_futureSize : GoodIn wsX3_redo wsX0_futureSize := goodIn_r _ [8, 9, 32, 33, 34, 35] (by decide +kernel) (by decide +kernel)
set_option maxRecDepth 20000 in
theorem gX3_redo_X0_futureSize : GoodIn wsX3_redo (wsV RX3 96 RX0 yX0_futureSize wsX0_futureSize) := goodIn_app (goodIn_of _ (by decide +kernel)) ggX3_redo_X0_futureSize
set_option maxRecDepth 20000 in
theorem ggX3_redo_X0_stepOn : GoodIn wsX3_redo wsX0_stepOn := goodIn_r _ [13, 14, 15, 9, 32, 33, 34, 35] (by decide +kernel) (by decide +kernel)
set_option maxRecDepth 20000 in
theorem gX3_redo_X0_stepOn : GoodIn wsX3_redo (wsV RX3 101 RX0 yX0_stepOn wsX0_stepOn) := goodIn_app (goodIn_of _ (by decide +kernel)) ggX3_redo_X0_stepOn
set_option maxRecDepth 20000 in
theorem ggX3_redo_X0_present : GoodIn wsX3_redo wsX0_present := goodIn_r _ [19, 20, 14, 32, 33, 34, 35] (by decide +kernel) (by decide +kernel)
set_option maxRecDepth 20000 in
theorem gX3_redo_X0_present : GoodIn wsX3_redo (wsV RX3 39 RX0 yX0_present wsX0_present) := goodIn_app (goodIn_of _ (by decide +kernel)) ggX3_redo_X0_present
set_option maxRecDepth 20000 in
theorem ggX3_redo_X2_size : GoodIn wsX3_redo wsX2_size := goodIn_r _ [25, 26, 36, 37] (by decide +kernel) (by decide +kernel)
set_option maxRecDepth 20000 in
theorem gX3_redo_X2_size : GoodIn wsX3_redo (wsV RX3 63 RX2 yX2_size wsX2_size) := goodIn_app (goodIn_of _ (by decide +kernel)) ggX3_redo_X2_size
theorem dX3_redo_0 : decode cX3_redo 0 = .ok (.aload_n 0, 1) := by decide +kernel
theorem dX3_redo_1 : decode cX3_redo 1 = .ok (.getfield 10, 3) := by decide +kernel
theorem dX3_redo_4 : decode cX3_redo 4 = .ok (.invokevirtual 96, 3) := by decide +kernel
theorem dX3_redo_7 : decode cX3_redo 7 = .ok (.ifCond .ne 13, 3) := by decide +kernel
theorem dX3_redo_10 : decode cX3_redo 10 = .ok (.new 88, 3) := by decide +kernel
theorem dX3_redo_13 : decode cX3_redo 13 = .ok (.dup, 1) := by decide +kernel
theorem dX3_redo_14 : decode cX3_redo 14 = .ok (.ldc 99, 2) := by decide +kernel
theorem dX3_redo_16 : decode cX3_redo 16 = .ok (.invokespecial 92, 3) := by decide +kernel
theorem dX3_redo_19 : decode cX3_redo 19 = .ok (.athrow, 1) := by decide +kernel
theorem dX3_redo_20 : decode cX3_redo 20 = .ok (.aload_n 0, 1) := by decide +kernel
theorem dX3_redo_21 : decode cX3_redo 21 = .ok (.getfield 10, 3) := by decide +kernel
theorem dX3_redo_24 : decode cX3_redo 24 = .ok (.invokevirtual 101, 3) := by decide +kernel
theorem dX3_redo_27 : decode cX3_redo 27 = .ok (.aload_n 0, 1) := by decide +kernel
theorem dX3_redo_28 : decode cX3_redo 28 = .ok (.getfield 10, 3) := by decide +kernel
theorem dX3_redo_31 : decode cX3_redo 31 = .ok (.invokevirtual 39, 3) := by decide +kernel
theorem dX3_redo_34 : decode cX3_redo 34 = .ok (.invokevirtual 63, 3) := by decide +kernel
theorem dX3_redo_37 : decode cX3_redo 37 = .ok (.ireturn, 1) := by decide +kernel
set_option maxRecDepth 20000 in
theorem ggX3_pattern_X3_refuseNoCharacter : GoodIn wsX3_pattern wsX3_refuseNoCharacter := goodIn_ca (goodIn_r _ [7, 8, 9] (by decide +kernel) (by decide +kernel)) (goodIn_sub (fun _ h => List.mem_cons_of_mem _ (List.mem_append_right _ h)) (by decide +kernel))
set_option maxRecDepth 20000 in
theorem gX3_pattern_X3_refuseNoCharacter : GoodIn wsX3_pattern (va_wsS RX3 47 yX3_refuseNoCharacter wsX3_refuseNoCharacter) := goodIn_app (goodIn_of _ (by decide +kernel)) ggX3_pattern_X3_refuseNoCharacter
set_option maxRecDepth 20000 in
theorem ggX3_pattern_X2_size : GoodIn wsX3_pattern wsX2_size := goodIn_r _ [14, 15, 26, 27] (by decide +kernel) (by decide +kernel)
set_option maxRecDepth 20000 in
theorem gX3_pattern_X2_size : GoodIn wsX3_pattern (wsV RX3 63 RX2 yX2_size wsX2_size) := goodIn_app (goodIn_of _ (by decide +kernel)) ggX3_pattern_X2_size
set_option maxRecDepth 20000 in
theorem ggX3_pattern_X2_add : GoodIn wsX3_pattern wsX2_add := goodIn_r _ [19, 20, 15, 26, 27] (by decide +kernel) (by decide +kernel)
set_option maxRecDepth 20000 in
theorem gX3_pattern_X2_add : GoodIn wsX3_pattern (wsV RX3 60 RX2 yX2_add wsX2_add) := goodIn_app (goodIn_of _ (by decide +kernel)) ggX3_pattern_X2_add
theorem dX3_pattern_0 : decode cX3_pattern 0 = .ok (.iload_n 1, 1) := by decide +kernel
theorem dX3_pattern_1 : decode cX3_pattern 1 = .ok (.invokestatic 47, 3) := by decide +kernel
theorem dX3_pattern_4 : decode cX3_pattern 4 = .ok (.aload_n 0, 1) := by decide +kernel
theorem dX3_pattern_5 : decode cX3_pattern 5 = .ok (.getfield 21, 3) := by decide +kernel
theorem dX3_pattern_8 : decode cX3_pattern 8 = .ok (.invokevirtual 63, 3) := by decide +kernel
theorem dX3_pattern_11 : decode cX3_pattern 11 = .ok (.bipush 16, 2) := by decide +kernel
theorem dX3_pattern_13 : decode cX3_pattern 13 = .ok (.if_icmp .lt 13, 3) := by decide +kernel
theorem dX3_pattern_16 : decode cX3_pattern 16 = .ok (.new 104, 3) := by decide +kernel
theorem dX3_pattern_19 : decode cX3_pattern 19 = .ok (.dup, 1) := by decide +kernel
theorem dX3_pattern_20 : decode cX3_pattern 20 = .ok (.ldc 106, 2) := by decide +kernel
theorem dX3_pattern_22 : decode cX3_pattern 22 = .ok (.invokespecial 108, 3) := by decide +kernel
theorem dX3_pattern_25 : decode cX3_pattern 25 = .ok (.athrow, 1) := by decide +kernel
theorem dX3_pattern_26 : decode cX3_pattern 26 = .ok (.aload_n 0, 1) := by decide +kernel
theorem dX3_pattern_27 : decode cX3_pattern 27 = .ok (.getfield 21, 3) := by decide +kernel
theorem dX3_pattern_30 : decode cX3_pattern 30 = .ok (.iload_n 1, 1) := by decide +kernel
theorem dX3_pattern_31 : decode cX3_pattern 31 = .ok (.invokevirtual 60, 3) := by decide +kernel
theorem dX3_pattern_34 : decode cX3_pattern 34 = .ok (.aload_n 0, 1) := by decide +kernel
theorem dX3_pattern_35 : decode cX3_pattern 35 = .ok (.getfield 21, 3) := by decide +kernel
theorem dX3_pattern_38 : decode cX3_pattern 38 = .ok (.invokevirtual 63, 3) := by decide +kernel
theorem dX3_pattern_41 : decode cX3_pattern 41 = .ok (.ireturn, 1) := by decide +kernel
set_option maxRecDepth 20000 in
theorem ggX3_noPattern_X2_size : GoodIn wsX3_noPattern wsX2_size := goodIn_r _ [6, 7, 17, 18] (by decide +kernel) (by decide +kernel)
set_option maxRecDepth 20000 in
theorem gX3_noPattern_X2_size : GoodIn wsX3_noPattern (wsV RX3 63 RX2 yX2_size wsX2_size) := goodIn_app (goodIn_of _ (by decide +kernel)) ggX3_noPattern_X2_size
set_option maxRecDepth 20000 in
theorem ggX3_noPattern_X2_empty : GoodIn wsX3_noPattern wsX2_empty := goodIn_r _ [11, 7, 17, 18] (by decide +kernel) (by decide +kernel)
set_option maxRecDepth 20000 in
theorem gX3_noPattern_X2_empty : GoodIn wsX3_noPattern (wsV RX3 53 RX2 yX2_empty wsX2_empty) := goodIn_app (goodIn_of _ (by decide +kernel)) ggX3_noPattern_X2_empty
theorem dX3_noPattern_0 : decode cX3_noPattern 0 = .ok (.aload_n 0, 1) := by decide +kernel
theorem dX3_noPattern_1 : decode cX3_noPattern 1 = .ok (.getfield 21, 3) := by decide +kernel
theorem dX3_noPattern_4 : decode cX3_noPattern 4 = .ok (.invokevirtual 63, 3) := by decide +kernel
theorem dX3_noPattern_7 : decode cX3_noPattern 7 = .ok (.istore_n 1, 1) := by decide +kernel
theorem dX3_noPattern_8 : decode cX3_noPattern 8 = .ok (.aload_n 0, 1) := by decide +kernel
theorem dX3_noPattern_9 : decode cX3_noPattern 9 = .ok (.getfield 21, 3) := by decide +kernel
theorem dX3_noPattern_12 : decode cX3_noPattern 12 = .ok (.invokevirtual 53, 3) := by decide +kernel
theorem dX3_noPattern_15 : decode cX3_noPattern 15 = .ok (.iload_n 1, 1) := by decide +kernel
theorem dX3_noPattern_16 : decode cX3_noPattern 16 = .ok (.ireturn, 1) := by decide +kernel
set_option maxRecDepth 20000 in
theorem ggX3_find_X0_present : GoodIn wsX3_find wsX0_present := goodIn_r _ [7, 8, 9, 32, 33, 34, 35] (by decide +kernel) (by decide +kernel)
set_option maxRecDepth 20000 in
theorem gX3_find_X0_present : GoodIn wsX3_find (wsV RX3 39 RX0 yX0_present wsX0_present) := goodIn_app (goodIn_of _ (by decide +kernel)) ggX3_find_X0_present
set_option maxRecDepth 20000 in
theorem ggX3_find_X3_refuseNoPlace : GoodIn wsX3_find wsX3_refuseNoPlace := goodIn_ca (goodIn_r _ [13, 14, 15, 16, 17, 18, 19, 20, 21, 36, 37] (by decide +kernel) (by decide +kernel)) (goodIn_sub (fun _ h => List.mem_cons_of_mem _ (List.mem_append_right _ h)) (by decide +kernel))
set_option maxRecDepth 20000 in
theorem gX3_find_X3_refuseNoPlace : GoodIn wsX3_find (va_wsS RX3 43 yX3_refuseNoPlace wsX3_refuseNoPlace) := goodIn_app (goodIn_of _ (by decide +kernel)) ggX3_find_X3_refuseNoPlace
set_option maxRecDepth 20000 in
theorem ggX3_find_X2_size : GoodIn wsX3_find wsX2_size := goodIn_r _ [20, 21, 36, 37] (by decide +kernel) (by decide +kernel)
set_option maxRecDepth 20000 in
theorem gX3_find_X2_size : GoodIn wsX3_find (wsV RX3 63 RX2 yX2_size wsX2_size) := goodIn_app (goodIn_of _ (by decide +kernel)) ggX3_find_X2_size
set_option maxRecDepth 20000 in
theorem ggX3_find_X2_hasAt : GoodIn wsX3_find wsX2_hasAt := goodIn_r _ [25, 21, 26, 36, 37] (by decide +kernel) (by decide +kernel)
set_option maxRecDepth 20000 in
theorem gX3_find_X2_hasAt : GoodIn wsX3_find (wsV RX3 109 RX2 yX2_hasAt wsX2_hasAt) := goodIn_app (goodIn_of _ (by decide +kernel)) ggX3_find_X2_hasAt
theorem dX3_find_0 : decode cX3_find 0 = .ok (.aload_n 0, 1) := by decide +kernel
theorem dX3_find_1 : decode cX3_find 1 = .ok (.getfield 10, 3) := by decide +kernel
theorem dX3_find_4 : decode cX3_find 4 = .ok (.invokevirtual 39, 3) := by decide +kernel
theorem dX3_find_7 : decode cX3_find 7 = .ok (.astore_n 2, 1) := by decide +kernel
theorem dX3_find_8 : decode cX3_find 8 = .ok (.iload_n 1, 1) := by decide +kernel
theorem dX3_find_9 : decode cX3_find 9 = .ok (.aload_n 2, 1) := by decide +kernel
theorem dX3_find_10 : decode cX3_find 10 = .ok (.invokestatic 43, 3) := by decide +kernel
theorem dX3_find_13 : decode cX3_find 13 = .ok (.iload_n 1, 1) := by decide +kernel
theorem dX3_find_14 : decode cX3_find 14 = .ok (.istore_n 3, 1) := by decide +kernel
theorem dX3_find_15 : decode cX3_find 15 = .ok (.iload_n 3, 1) := by decide +kernel
theorem dX3_find_16 : decode cX3_find 16 = .ok (.aload_n 2, 1) := by decide +kernel
theorem dX3_find_17 : decode cX3_find 17 = .ok (.invokevirtual 63, 3) := by decide +kernel
theorem dX3_find_20 : decode cX3_find 20 = .ok (.if_icmp .gt 23, 3) := by decide +kernel
theorem dX3_find_23 : decode cX3_find 23 = .ok (.aload_n 2, 1) := by decide +kernel
theorem dX3_find_24 : decode cX3_find 24 = .ok (.iload_n 3, 1) := by decide +kernel
theorem dX3_find_25 : decode cX3_find 25 = .ok (.aload_n 0, 1) := by decide +kernel
theorem dX3_find_26 : decode cX3_find 26 = .ok (.getfield 21, 3) := by decide +kernel
theorem dX3_find_29 : decode cX3_find 29 = .ok (.invokevirtual 109, 3) := by decide +kernel
theorem dX3_find_32 : decode cX3_find 32 = .ok (.ifCond .eq 5, 3) := by decide +kernel
theorem dX3_find_35 : decode cX3_find 35 = .ok (.iload_n 3, 1) := by decide +kernel
theorem dX3_find_36 : decode cX3_find 36 = .ok (.ireturn, 1) := by decide +kernel
theorem dX3_find_37 : decode cX3_find 37 = .ok (.iinc 3 1, 3) := by decide +kernel
theorem dX3_find_40 : decode cX3_find 40 = .ok (.goto (-25), 3) := by decide +kernel
theorem dX3_find_43 : decode cX3_find 43 = .ok (.iconst (-1), 1) := by decide +kernel
theorem dX3_find_44 : decode cX3_find 44 = .ok (.ireturn, 1) := by decide +kernel
set_option maxRecDepth 20000 in
theorem ggX3_replace_X3_refuseNoCharacter : GoodIn wsX3_replace wsX3_refuseNoCharacter := goodIn_ca (goodIn_r _ [7, 8, 9] (by decide +kernel) (by decide +kernel)) (goodIn_sub (fun _ h => List.mem_cons_of_mem _ (List.mem_append_right _ h)) (by decide +kernel))
set_option maxRecDepth 20000 in
theorem gX3_replace_X3_refuseNoCharacter : GoodIn wsX3_replace (va_wsS RX3 47 yX3_refuseNoCharacter wsX3_refuseNoCharacter) := goodIn_app (goodIn_of _ (by decide +kernel)) ggX3_replace_X3_refuseNoCharacter
set_option maxRecDepth 20000 in
theorem ggX3_replace_X2_size : GoodIn wsX3_replace wsX2_size := goodIn_r _ [14, 15, 75, 76] (by decide +kernel) (by decide +kernel)
set_option maxRecDepth 20000 in
theorem gX3_replace_X2_size : GoodIn wsX3_replace (wsV RX3 63 RX2 yX2_size wsX2_size) := goodIn_app (goodIn_of _ (by decide +kernel)) ggX3_replace_X2_size
set_option maxRecDepth 20000 in
theorem ggX3_replace_X3_draftReplaced : GoodIn wsX3_replace wsX3_draftReplaced := goodIn_r _ [19, 20, 21, 3, 22, 23, 24, 25, 26, 27, 28, 29, 30, 31, 13, 32, 15, 10, 11, 12, 14, 33, 34, 35, 36, 37, 38, 39, 40, 41, 42, 43, 44, 45, 70, 71, 72, 73, 74, 77, 78, 79, 80, 75, 76] (by decide +kernel) (by decide +kernel)
set_option maxRecDepth 20000 in
theorem gX3_replace_X3_draftReplaced : GoodIn wsX3_replace (wsV RX3 115 RX3 yX3_draftReplaced wsX3_draftReplaced) := goodIn_app (goodIn_of _ (by decide +kernel)) ggX3_replace_X3_draftReplaced
set_option maxRecDepth 20000 in
theorem ggX3_replace_X3_keepDraft : GoodIn wsX3_replace wsX3_keepDraft := goodIn_r _ [49, 20, 21, 50, 51, 52, 25, 53, 28, 27, 54, 55, 56, 57, 58, 59, 60, 30, 31, 13, 32, 15, 61, 11, 12, 14, 62, 63, 64, 65, 37, 66, 67, 68, 69, 10, 70, 71, 72, 73, 74, 77, 78, 79, 80, 75, 76] (by decide +kernel) (by decide +kernel)
set_option maxRecDepth 20000 in
theorem gX3_replace_X3_keepDraft : GoodIn wsX3_replace (wsV RX3 67 RX3 yX3_keepDraft wsX3_keepDraft) := goodIn_app (goodIn_of _ (by decide +kernel)) ggX3_replace_X3_keepDraft
theorem dX3_replace_0 : decode cX3_replace 0 = .ok (.iload_n 1, 1) := by decide +kernel
theorem dX3_replace_1 : decode cX3_replace 1 = .ok (.invokestatic 47, 3) := by decide +kernel
theorem dX3_replace_4 : decode cX3_replace 4 = .ok (.aload_n 0, 1) := by decide +kernel
theorem dX3_replace_5 : decode cX3_replace 5 = .ok (.getfield 21, 3) := by decide +kernel
theorem dX3_replace_8 : decode cX3_replace 8 = .ok (.invokevirtual 63, 3) := by decide +kernel
theorem dX3_replace_11 : decode cX3_replace 11 = .ok (.ifCond .ne 13, 3) := by decide +kernel
theorem dX3_replace_14 : decode cX3_replace 14 = .ok (.new 88, 3) := by decide +kernel
theorem dX3_replace_17 : decode cX3_replace 17 = .ok (.dup, 1) := by decide +kernel
theorem dX3_replace_18 : decode cX3_replace 18 = .ok (.ldc 113, 2) := by decide +kernel
theorem dX3_replace_20 : decode cX3_replace 20 = .ok (.invokespecial 92, 3) := by decide +kernel
theorem dX3_replace_23 : decode cX3_replace 23 = .ok (.athrow, 1) := by decide +kernel
theorem dX3_replace_24 : decode cX3_replace 24 = .ok (.aload_n 0, 1) := by decide +kernel
theorem dX3_replace_25 : decode cX3_replace 25 = .ok (.iload_n 1, 1) := by decide +kernel
theorem dX3_replace_26 : decode cX3_replace 26 = .ok (.invokevirtual 115, 3) := by decide +kernel
theorem dX3_replace_29 : decode cX3_replace 29 = .ok (.istore_n 2, 1) := by decide +kernel
theorem dX3_replace_30 : decode cX3_replace 30 = .ok (.aload_n 0, 1) := by decide +kernel
theorem dX3_replace_31 : decode cX3_replace 31 = .ok (.invokevirtual 67, 3) := by decide +kernel
theorem dX3_replace_34 : decode cX3_replace 34 = .ok (.pop, 1) := by decide +kernel
theorem dX3_replace_35 : decode cX3_replace 35 = .ok (.iload_n 2, 1) := by decide +kernel
theorem dX3_replace_36 : decode cX3_replace 36 = .ok (.ireturn, 1) := by decide +kernel
set_option maxRecDepth 20000 in
theorem ggX3_snapshot_X0_present : GoodIn wsX3_snapshot wsX0_present := goodIn_r _ [7, 8, 9, 45, 46, 47, 48] (by decide +kernel) (by decide +kernel)
set_option maxRecDepth 20000 in
theorem gX3_snapshot_X0_present : GoodIn wsX3_snapshot (wsV RX3 39 RX0 yX0_present wsX0_present) := goodIn_app (goodIn_of _ (by decide +kernel)) ggX3_snapshot_X0_present
set_option maxRecDepth 20000 in
theorem ggX3_snapshot_X1_writeDown : GoodIn wsX3_snapshot wsX1_writeDown := goodIn_r _ [14, 15, 16, 17, 18, 19, 20, 21, 22, 23, 24, 25, 26, 27, 28, 29, 13, 30, 31, 32, 33, 34, 35, 49, 50, 51, 52, 53] (by decide +kernel) (by decide +kernel)
set_option maxRecDepth 20000 in
theorem gX3_snapshot_X1_writeDown : GoodIn wsX3_snapshot (wsV RX3 118 RX1 yX1_writeDown wsX1_writeDown) := goodIn_app (goodIn_of _ (by decide +kernel)) ggX3_snapshot_X1_writeDown
set_option maxRecDepth 20000 in
theorem ggX3_snapshot_X1_size : GoodIn wsX3_snapshot wsX1_size := goodIn_r _ [39, 15, 49, 50, 51] (by decide +kernel) (by decide +kernel)
set_option maxRecDepth 20000 in
theorem gX3_snapshot_X1_size : GoodIn wsX3_snapshot (wsV RX3 122 RX1 yX1_size wsX1_size) := goodIn_app (goodIn_of _ (by decide +kernel)) ggX3_snapshot_X1_size
theorem dX3_snapshot_0 : decode cX3_snapshot 0 = .ok (.aload_n 0, 1) := by decide +kernel
theorem dX3_snapshot_1 : decode cX3_snapshot 1 = .ok (.getfield 28, 3) := by decide +kernel
theorem dX3_snapshot_4 : decode cX3_snapshot 4 = .ok (.aload_n 0, 1) := by decide +kernel
theorem dX3_snapshot_5 : decode cX3_snapshot 5 = .ok (.getfield 10, 3) := by decide +kernel
theorem dX3_snapshot_8 : decode cX3_snapshot 8 = .ok (.invokevirtual 39, 3) := by decide +kernel
theorem dX3_snapshot_11 : decode cX3_snapshot 11 = .ok (.invokevirtual 118, 3) := by decide +kernel
theorem dX3_snapshot_14 : decode cX3_snapshot 14 = .ok (.aload_n 0, 1) := by decide +kernel
theorem dX3_snapshot_15 : decode cX3_snapshot 15 = .ok (.getfield 28, 3) := by decide +kernel
theorem dX3_snapshot_18 : decode cX3_snapshot 18 = .ok (.invokevirtual 122, 3) := by decide +kernel
theorem dX3_snapshot_21 : decode cX3_snapshot 21 = .ok (.ireturn, 1) := by decide +kernel
set_option maxRecDepth 20000 in
theorem ggX3_word_X3_refuseNoWord : GoodIn wsX3_word wsX3_refuseNoWord := goodIn_ca (goodIn_r _ [6, 7, 8, 1, 9, 10, 11, 12, 13, 14, 20, 21, 22, 23, 24, 25, 26, 27] (by decide +kernel) (by decide +kernel)) (goodIn_sub (fun _ h => List.mem_cons_of_mem _ (List.mem_append_right _ h)) (by decide +kernel))
set_option maxRecDepth 20000 in
theorem gX3_word_X3_refuseNoWord : GoodIn wsX3_word (wsV RX3 123 RX3 yX3_refuseNoWord wsX3_refuseNoWord) := goodIn_app (goodIn_of _ (by decide +kernel)) ggX3_word_X3_refuseNoWord
set_option maxRecDepth 20000 in
theorem ggX3_word_X1_get : GoodIn wsX3_word wsX1_get := goodIn_r _ [18, 19, 25, 26, 27] (by decide +kernel) (by decide +kernel)
set_option maxRecDepth 20000 in
theorem gX3_word_X1_get : GoodIn wsX3_word (wsV RX3 126 RX1 yX1_get wsX1_get) := goodIn_app (goodIn_of _ (by decide +kernel)) ggX3_word_X1_get
theorem dX3_word_0 : decode cX3_word 0 = .ok (.aload_n 0, 1) := by decide +kernel
theorem dX3_word_1 : decode cX3_word 1 = .ok (.iload_n 1, 1) := by decide +kernel
theorem dX3_word_2 : decode cX3_word 2 = .ok (.invokevirtual 123, 3) := by decide +kernel
theorem dX3_word_5 : decode cX3_word 5 = .ok (.aload_n 0, 1) := by decide +kernel
theorem dX3_word_6 : decode cX3_word 6 = .ok (.getfield 28, 3) := by decide +kernel
theorem dX3_word_9 : decode cX3_word 9 = .ok (.iload_n 1, 1) := by decide +kernel
theorem dX3_word_10 : decode cX3_word 10 = .ok (.invokevirtual 126, 3) := by decide +kernel
theorem dX3_word_13 : decode cX3_word 13 = .ok (.ireturn, 1) := by decide +kernel
set_option maxRecDepth 20000 in
theorem ggX3_poke_X3_refuseNoWord : GoodIn wsX3_poke wsX3_refuseNoWord := goodIn_ca (goodIn_r _ [6, 7, 8, 1, 9, 10, 11, 12, 13, 14, 24, 25, 26, 27, 28, 29, 30, 31] (by decide +kernel) (by decide +kernel)) (goodIn_sub (fun _ h => List.mem_cons_of_mem _ (List.mem_append_right _ h)) (by decide +kernel))
set_option maxRecDepth 20000 in
theorem gX3_poke_X3_refuseNoWord : GoodIn wsX3_poke (wsV RX3 123 RX3 yX3_refuseNoWord wsX3_refuseNoWord) := goodIn_app (goodIn_of _ (by decide +kernel)) ggX3_poke_X3_refuseNoWord
set_option maxRecDepth 20000 in
theorem ggX3_poke_X1_get : GoodIn wsX3_poke wsX1_get := goodIn_r _ [18, 19, 29, 30, 31] (by decide +kernel) (by decide +kernel)
set_option maxRecDepth 20000 in
theorem gX3_poke_X1_get : GoodIn wsX3_poke (wsV RX3 126 RX1 yX1_get wsX1_get) := goodIn_app (goodIn_of _ (by decide +kernel)) ggX3_poke_X1_get
set_option maxRecDepth 20000 in
theorem ggX3_poke_X1_set : GoodIn wsX3_poke wsX1_set := goodIn_r _ [23, 19, 29, 30, 31] (by decide +kernel) (by decide +kernel)
set_option maxRecDepth 20000 in
theorem gX3_poke_X1_set : GoodIn wsX3_poke (wsV RX3 127 RX1 yX1_set wsX1_set) := goodIn_app (goodIn_of _ (by decide +kernel)) ggX3_poke_X1_set
theorem dX3_poke_0 : decode cX3_poke 0 = .ok (.aload_n 0, 1) := by decide +kernel
theorem dX3_poke_1 : decode cX3_poke 1 = .ok (.iload_n 1, 1) := by decide +kernel
theorem dX3_poke_2 : decode cX3_poke 2 = .ok (.invokevirtual 123, 3) := by decide +kernel
theorem dX3_poke_5 : decode cX3_poke 5 = .ok (.aload_n 0, 1) := by decide +kernel
theorem dX3_poke_6 : decode cX3_poke 6 = .ok (.getfield 28, 3) := by decide +kernel
theorem dX3_poke_9 : decode cX3_poke 9 = .ok (.iload_n 1, 1) := by decide +kernel
theorem dX3_poke_10 : decode cX3_poke 10 = .ok (.invokevirtual 126, 3) := by decide +kernel
theorem dX3_poke_13 : decode cX3_poke 13 = .ok (.istore_n 3, 1) := by decide +kernel
theorem dX3_poke_14 : decode cX3_poke 14 = .ok (.aload_n 0, 1) := by decide +kernel
theorem dX3_poke_15 : decode cX3_poke 15 = .ok (.getfield 28, 3) := by decide +kernel
theorem dX3_poke_18 : decode cX3_poke 18 = .ok (.iload_n 1, 1) := by decide +kernel
theorem dX3_poke_19 : decode cX3_poke 19 = .ok (.iload_n 2, 1) := by decide +kernel
theorem dX3_poke_20 : decode cX3_poke 20 = .ok (.invokevirtual 127, 3) := by decide +kernel
theorem dX3_poke_23 : decode cX3_poke 23 = .ok (.iload_n 3, 1) := by decide +kernel
theorem dX3_poke_24 : decode cX3_poke 24 = .ok (.ireturn, 1) := by decide +kernel
set_option maxRecDepth 20000 in
theorem ggX3_restore_X1_readInto : GoodIn wsX3_restore wsX1_readInto := goodIn_r _ [7, 8, 9, 10, 11, 12, 13, 14, 15, 16, 17, 18, 19, 6, 20, 21, 22, 23, 24, 25, 26, 27, 28, 29, 30, 31, 32, 33, 34, 35, 36, 37, 38, 39, 40, 41, 42, 43, 44, 45, 74, 75, 76, 77, 78] (by decide +kernel) (by decide +kernel)
set_option maxRecDepth 20000 in
theorem gX3_restore_X1_readInto : GoodIn wsX3_restore (wsV RX3 131 RX1 yX1_readInto wsX1_readInto) := goodIn_app (goodIn_of _ (by decide +kernel)) ggX3_restore_X1_readInto
set_option maxRecDepth 20000 in
theorem ggX3_restore_X3_keepDraft : GoodIn wsX3_restore wsX3_keepDraft := goodIn_r _ [50, 51, 2, 52, 53, 54, 55, 56, 57, 58, 59, 60, 61, 62, 63, 64, 65, 12, 13, 14, 15, 16, 66, 26, 27, 28, 67, 34, 35, 36, 37, 38, 39, 40, 41, 68, 69, 70, 71, 72, 73, 79, 80, 81, 82, 77, 78] (by decide +kernel) (by decide +kernel)
set_option maxRecDepth 20000 in
theorem gX3_restore_X3_keepDraft : GoodIn wsX3_restore (wsV RX3 67 RX3 yX3_keepDraft wsX3_keepDraft) := goodIn_app (goodIn_of _ (by decide +kernel)) ggX3_restore_X3_keepDraft
theorem dX3_restore_0 : decode cX3_restore 0 = .ok (.aload_n 0, 1) := by decide +kernel
theorem dX3_restore_1 : decode cX3_restore 1 = .ok (.getfield 28, 3) := by decide +kernel
theorem dX3_restore_4 : decode cX3_restore 4 = .ok (.aload_n 0, 1) := by decide +kernel
theorem dX3_restore_5 : decode cX3_restore 5 = .ok (.getfield 32, 3) := by decide +kernel
theorem dX3_restore_8 : decode cX3_restore 8 = .ok (.invokevirtual 131, 3) := by decide +kernel
theorem dX3_restore_11 : decode cX3_restore 11 = .ok (.istore_n 1, 1) := by decide +kernel
theorem dX3_restore_12 : decode cX3_restore 12 = .ok (.iload_n 1, 1) := by decide +kernel
theorem dX3_restore_13 : decode cX3_restore 13 = .ok (.iconst (-1), 1) := by decide +kernel
theorem dX3_restore_14 : decode cX3_restore 14 = .ok (.if_icmp .eq 7, 3) := by decide +kernel
theorem dX3_restore_17 : decode cX3_restore 17 = .ok (.iconst (-1), 1) := by decide +kernel
theorem dX3_restore_18 : decode cX3_restore 18 = .ok (.iload_n 1, 1) := by decide +kernel
theorem dX3_restore_19 : decode cX3_restore 19 = .ok (.isub, 1) := by decide +kernel
theorem dX3_restore_20 : decode cX3_restore 20 = .ok (.ireturn, 1) := by decide +kernel
theorem dX3_restore_21 : decode cX3_restore 21 = .ok (.aload_n 0, 1) := by decide +kernel
theorem dX3_restore_22 : decode cX3_restore 22 = .ok (.invokevirtual 67, 3) := by decide +kernel
theorem dX3_restore_25 : decode cX3_restore 25 = .ok (.ireturn, 1) := by decide +kernel
set_option maxRecDepth 20000 in
theorem ggX3_told_X0_present : GoodIn wsX3_told wsX0_present := goodIn_r _ [8, 9, 10, 53, 54, 55, 56] (by decide +kernel) (by decide +kernel)
set_option maxRecDepth 20000 in
theorem gX3_told_X0_present : GoodIn wsX3_told (wsV RX3 39 RX0 yX0_present wsX0_present) := goodIn_app (goodIn_of _ (by decide +kernel)) ggX3_told_X0_present
set_option maxRecDepth 20000 in
theorem ggX3_told_X2_size : GoodIn wsX3_told wsX2_size := goodIn_r _ [15, 16, 57, 58] (by decide +kernel) (by decide +kernel)
set_option maxRecDepth 20000 in
theorem gX3_told_X2_size : GoodIn wsX3_told (wsV RX3 63 RX2 yX2_size wsX2_size) := goodIn_app (goodIn_of _ (by decide +kernel)) ggX3_told_X2_size
set_option maxRecDepth 20000 in
theorem ggX3_told_X0_pastSize : GoodIn wsX3_told wsX0_pastSize := goodIn_r _ [20, 21, 53, 54, 55, 56] (by decide +kernel) (by decide +kernel)
set_option maxRecDepth 20000 in
theorem gX3_told_X0_pastSize : GoodIn wsX3_told (wsV RX3 85 RX0 yX0_pastSize wsX0_pastSize) := goodIn_app (goodIn_of _ (by decide +kernel)) ggX3_told_X0_pastSize
set_option maxRecDepth 20000 in
theorem ggX3_told_X0_futureSize : GoodIn wsX3_told wsX0_futureSize := goodIn_r _ [25, 26, 53, 54, 55, 56] (by decide +kernel) (by decide +kernel)
set_option maxRecDepth 20000 in
theorem gX3_told_X0_futureSize : GoodIn wsX3_told (wsV RX3 96 RX0 yX0_futureSize wsX0_futureSize) := goodIn_app (goodIn_of _ (by decide +kernel)) ggX3_told_X0_futureSize
set_option maxRecDepth 20000 in
theorem ggX3_told_X1_size : GoodIn wsX3_told wsX1_size := goodIn_r _ [31, 32, 59, 60, 61] (by decide +kernel) (by decide +kernel)
set_option maxRecDepth 20000 in
theorem gX3_told_X1_size : GoodIn wsX3_told (wsV RX3 122 RX1 yX1_size wsX1_size) := goodIn_app (goodIn_of _ (by decide +kernel)) ggX3_told_X1_size
set_option maxRecDepth 20000 in
theorem ggX3_told_X3_differentCharacters : GoodIn wsX3_told wsX3_differentCharacters := goodIn_r _ [37, 1, 38, 4, 5, 6, 7, 8, 9, 10, 39, 40, 41, 42, 11, 12, 13, 14, 15, 16, 43, 44, 45, 46, 47, 48, 49, 50, 51, 52, 53, 54, 55, 56, 57, 58] (by decide +kernel) (by decide +kernel)
set_option maxRecDepth 20000 in
theorem gX3_told_X3_differentCharacters : GoodIn wsX3_told (wsV RX3 135 RX3 yX3_differentCharacters wsX3_differentCharacters) := goodIn_app (goodIn_of _ (by decide +kernel)) ggX3_told_X3_differentCharacters
theorem dX3_told_0 : decode cX3_told 0 = .ok (.iload_n 1, 1) := by decide +kernel
theorem dX3_told_1 : decode cX3_told 1 = .ok (.tableswitch 87 0 5 #[39, 50, 58, 66, 74, 82], 39) := by decide +kernel
theorem dX3_told_40 : decode cX3_told 40 = .ok (.aload_n 0, 1) := by decide +kernel
theorem dX3_told_41 : decode cX3_told 41 = .ok (.getfield 10, 3) := by decide +kernel
theorem dX3_told_44 : decode cX3_told 44 = .ok (.invokevirtual 39, 3) := by decide +kernel
theorem dX3_told_47 : decode cX3_told 47 = .ok (.invokevirtual 63, 3) := by decide +kernel
theorem dX3_told_50 : decode cX3_told 50 = .ok (.ireturn, 1) := by decide +kernel
theorem dX3_told_51 : decode cX3_told 51 = .ok (.aload_n 0, 1) := by decide +kernel
theorem dX3_told_52 : decode cX3_told 52 = .ok (.getfield 10, 3) := by decide +kernel
theorem dX3_told_55 : decode cX3_told 55 = .ok (.invokevirtual 85, 3) := by decide +kernel
theorem dX3_told_58 : decode cX3_told 58 = .ok (.ireturn, 1) := by decide +kernel
theorem dX3_told_59 : decode cX3_told 59 = .ok (.aload_n 0, 1) := by decide +kernel
theorem dX3_told_60 : decode cX3_told 60 = .ok (.getfield 10, 3) := by decide +kernel
theorem dX3_told_63 : decode cX3_told 63 = .ok (.invokevirtual 96, 3) := by decide +kernel
theorem dX3_told_66 : decode cX3_told 66 = .ok (.ireturn, 1) := by decide +kernel
theorem dX3_told_67 : decode cX3_told 67 = .ok (.aload_n 0, 1) := by decide +kernel
theorem dX3_told_68 : decode cX3_told 68 = .ok (.getfield 21, 3) := by decide +kernel
theorem dX3_told_71 : decode cX3_told 71 = .ok (.invokevirtual 63, 3) := by decide +kernel
theorem dX3_told_74 : decode cX3_told 74 = .ok (.ireturn, 1) := by decide +kernel
theorem dX3_told_75 : decode cX3_told 75 = .ok (.aload_n 0, 1) := by decide +kernel
theorem dX3_told_76 : decode cX3_told 76 = .ok (.getfield 28, 3) := by decide +kernel
theorem dX3_told_79 : decode cX3_told 79 = .ok (.invokevirtual 122, 3) := by decide +kernel
theorem dX3_told_82 : decode cX3_told 82 = .ok (.ireturn, 1) := by decide +kernel
theorem dX3_told_83 : decode cX3_told 83 = .ok (.aload_n 0, 1) := by decide +kernel
theorem dX3_told_84 : decode cX3_told 84 = .ok (.invokevirtual 135, 3) := by decide +kernel
theorem dX3_told_87 : decode cX3_told 87 = .ok (.ireturn, 1) := by decide +kernel
theorem dX3_told_88 : decode cX3_told 88 = .ok (.iconst (-1), 1) := by decide +kernel
theorem dX3_told_89 : decode cX3_told 89 = .ok (.ireturn, 1) := by decide +kernel
set_option maxRecDepth 20000 in
theorem ggX3_clear_X0_forget : GoodIn wsX3_clear wsX0_forget := goodIn_r _ [8, 9, 10, 11, 12, 13, 14, 15, 16, 17, 18, 31, 32, 33, 34, 35, 36] (by decide +kernel) (by decide +kernel)
set_option maxRecDepth 20000 in
theorem gX3_clear_X0_forget : GoodIn wsX3_clear (wsV RX3 138 RX0 yX0_forget wsX0_forget) := goodIn_app (goodIn_of _ (by decide +kernel)) ggX3_clear_X0_forget
set_option maxRecDepth 20000 in
theorem ggX3_clear_X2_empty : GoodIn wsX3_clear wsX2_empty := goodIn_r _ [17, 18, 35, 36] (by decide +kernel) (by decide +kernel)
set_option maxRecDepth 20000 in
theorem gX3_clear_X2_empty : GoodIn wsX3_clear (wsV RX3 53 RX2 yX2_empty wsX2_empty) := goodIn_app (goodIn_of _ (by decide +kernel)) ggX3_clear_X2_empty
set_option maxRecDepth 20000 in
theorem ggX3_clear_X1_forget : GoodIn wsX3_clear wsX1_forget := goodIn_r _ [24, 25, 37, 38, 39] (by decide +kernel) (by decide +kernel)
set_option maxRecDepth 20000 in
theorem gX3_clear_X1_forget : GoodIn wsX3_clear (wsV RX3 141 RX1 yX1_forget wsX1_forget) := goodIn_app (goodIn_of _ (by decide +kernel)) ggX3_clear_X1_forget
theorem dX3_clear_0 : decode cX3_clear 0 = .ok (.aload_n 0, 1) := by decide +kernel
theorem dX3_clear_1 : decode cX3_clear 1 = .ok (.getfield 10, 3) := by decide +kernel
theorem dX3_clear_4 : decode cX3_clear 4 = .ok (.invokevirtual 138, 3) := by decide +kernel
theorem dX3_clear_7 : decode cX3_clear 7 = .ok (.aload_n 0, 1) := by decide +kernel
theorem dX3_clear_8 : decode cX3_clear 8 = .ok (.getfield 21, 3) := by decide +kernel
theorem dX3_clear_11 : decode cX3_clear 11 = .ok (.invokevirtual 53, 3) := by decide +kernel
theorem dX3_clear_14 : decode cX3_clear 14 = .ok (.aload_n 0, 1) := by decide +kernel
theorem dX3_clear_15 : decode cX3_clear 15 = .ok (.getfield 28, 3) := by decide +kernel
theorem dX3_clear_18 : decode cX3_clear 18 = .ok (.invokevirtual 141, 3) := by decide +kernel
theorem dX3_clear_21 : decode cX3_clear 21 = .ok (.return_, 1) := by decide +kernel
set_option maxRecDepth 20000 in
theorem ggX3_keepDraft_X0_keep : GoodIn wsX3_keepDraft wsX0_keep := goodIn_r _ [7, 8, 9, 10, 11, 12, 13, 14, 15, 16, 17, 18, 19, 20, 21, 22, 23, 24, 25, 26, 27, 28, 29, 30, 31, 32, 33, 34, 41, 42, 43, 44, 45, 46] (by decide +kernel) (by decide +kernel)
set_option maxRecDepth 20000 in
theorem gX3_keepDraft_X0_keep : GoodIn wsX3_keepDraft (wsV RX3 142 RX0 yX0_keep wsX0_keep) := goodIn_app (goodIn_of _ (by decide +kernel)) ggX3_keepDraft_X0_keep
set_option maxRecDepth 20000 in
theorem ggX3_keepDraft_X2_size : GoodIn wsX3_keepDraft wsX2_size := goodIn_r _ [25, 21, 45, 46] (by decide +kernel) (by decide +kernel)
set_option maxRecDepth 20000 in
theorem gX3_keepDraft_X2_size : GoodIn wsX3_keepDraft (wsV RX3 63 RX2 yX2_size wsX2_size) := goodIn_app (goodIn_of _ (by decide +kernel)) ggX3_keepDraft_X2_size
theorem dX3_keepDraft_0 : decode cX3_keepDraft 0 = .ok (.aload_n 0, 1) := by decide +kernel
theorem dX3_keepDraft_1 : decode cX3_keepDraft 1 = .ok (.getfield 10, 3) := by decide +kernel
theorem dX3_keepDraft_4 : decode cX3_keepDraft 4 = .ok (.aload_n 0, 1) := by decide +kernel
theorem dX3_keepDraft_5 : decode cX3_keepDraft 5 = .ok (.getfield 32, 3) := by decide +kernel
theorem dX3_keepDraft_8 : decode cX3_keepDraft 8 = .ok (.invokevirtual 142, 3) := by decide +kernel
theorem dX3_keepDraft_11 : decode cX3_keepDraft 11 = .ok (.aload_n 0, 1) := by decide +kernel
theorem dX3_keepDraft_12 : decode cX3_keepDraft 12 = .ok (.getfield 32, 3) := by decide +kernel
theorem dX3_keepDraft_15 : decode cX3_keepDraft 15 = .ok (.invokevirtual 63, 3) := by decide +kernel
theorem dX3_keepDraft_18 : decode cX3_keepDraft 18 = .ok (.ireturn, 1) := by decide +kernel
set_option maxRecDepth 20000 in
theorem ggX3_draftReplaced_X0_present : GoodIn wsX3_draftReplaced wsX0_present := goodIn_r _ [8, 9, 10, 39, 40, 41, 42] (by decide +kernel) (by decide +kernel)
set_option maxRecDepth 20000 in
theorem gX3_draftReplaced_X0_present : GoodIn wsX3_draftReplaced (wsV RX3 39 RX0 yX0_present wsX0_present) := goodIn_app (goodIn_of _ (by decide +kernel)) ggX3_draftReplaced_X0_present
set_option maxRecDepth 20000 in
theorem ggX3_draftReplaced_X2_empty : GoodIn wsX3_draftReplaced wsX2_empty := goodIn_r _ [15, 16, 43, 44] (by decide +kernel) (by decide +kernel)
set_option maxRecDepth 20000 in
theorem gX3_draftReplaced_X2_empty : GoodIn wsX3_draftReplaced (wsV RX3 53 RX2 yX2_empty wsX2_empty) := goodIn_app (goodIn_of _ (by decide +kernel)) ggX3_draftReplaced_X2_empty
set_option maxRecDepth 20000 in
theorem ggX3_draftReplaced_X2_size : GoodIn wsX3_draftReplaced wsX2_size := goodIn_r _ [20, 16, 43, 44] (by decide +kernel) (by decide +kernel)
set_option maxRecDepth 20000 in
theorem gX3_draftReplaced_X2_size : GoodIn wsX3_draftReplaced (wsV RX3 63 RX2 yX2_size wsX2_size) := goodIn_app (goodIn_of _ (by decide +kernel)) ggX3_draftReplaced_X2_size
set_option maxRecDepth 20000 in
theorem ggX3_draftReplaced_X2_hasAt : GoodIn wsX3_draftReplaced wsX2_hasAt := goodIn_r _ [24, 16, 25, 43, 44] (by decide +kernel) (by decide +kernel)
set_option maxRecDepth 20000 in
theorem gX3_draftReplaced_X2_hasAt : GoodIn wsX3_draftReplaced (wsV RX3 109 RX2 yX2_hasAt wsX2_hasAt) := goodIn_app (goodIn_of _ (by decide +kernel)) ggX3_draftReplaced_X2_hasAt
set_option maxRecDepth 20000 in
theorem ggX3_draftReplaced_X2_add : GoodIn wsX3_draftReplaced wsX2_add := goodIn_r _ [29, 25, 16, 43, 44] (by decide +kernel) (by decide +kernel)
set_option maxRecDepth 20000 in
theorem gX3_draftReplaced_X2_add : GoodIn wsX3_draftReplaced (wsV RX3 60 RX2 yX2_add wsX2_add) := goodIn_app (goodIn_of _ (by decide +kernel)) ggX3_draftReplaced_X2_add
set_option maxRecDepth 20000 in
theorem ggX3_draftReplaced_X2_get : GoodIn wsX3_draftReplaced wsX2_get := goodIn_r _ [33, 25, 43, 44] (by decide +kernel) (by decide +kernel)
set_option maxRecDepth 20000 in
theorem gX3_draftReplaced_X2_get : GoodIn wsX3_draftReplaced (wsV RX3 81 RX2 yX2_get wsX2_get) := goodIn_app (goodIn_of _ (by decide +kernel)) ggX3_draftReplaced_X2_get
theorem dX3_draftReplaced_0 : decode cX3_draftReplaced 0 = .ok (.aload_n 0, 1) := by decide +kernel
theorem dX3_draftReplaced_1 : decode cX3_draftReplaced 1 = .ok (.getfield 10, 3) := by decide +kernel
theorem dX3_draftReplaced_4 : decode cX3_draftReplaced 4 = .ok (.invokevirtual 39, 3) := by decide +kernel
theorem dX3_draftReplaced_7 : decode cX3_draftReplaced 7 = .ok (.astore_n 2, 1) := by decide +kernel
theorem dX3_draftReplaced_8 : decode cX3_draftReplaced 8 = .ok (.aload_n 0, 1) := by decide +kernel
theorem dX3_draftReplaced_9 : decode cX3_draftReplaced 9 = .ok (.getfield 32, 3) := by decide +kernel
theorem dX3_draftReplaced_12 : decode cX3_draftReplaced 12 = .ok (.invokevirtual 53, 3) := by decide +kernel
theorem dX3_draftReplaced_15 : decode cX3_draftReplaced 15 = .ok (.iconst 0, 1) := by decide +kernel
theorem dX3_draftReplaced_16 : decode cX3_draftReplaced 16 = .ok (.istore_n 3, 1) := by decide +kernel
theorem dX3_draftReplaced_17 : decode cX3_draftReplaced 17 = .ok (.iconst 0, 1) := by decide +kernel
theorem dX3_draftReplaced_18 : decode cX3_draftReplaced 18 = .ok (.istore 4, 2) := by decide +kernel
theorem dX3_draftReplaced_20 : decode cX3_draftReplaced 20 = .ok (.iconst 0, 1) := by decide +kernel
theorem dX3_draftReplaced_21 : decode cX3_draftReplaced 21 = .ok (.istore 5, 2) := by decide +kernel
theorem dX3_draftReplaced_23 : decode cX3_draftReplaced 23 = .ok (.iload 5, 2) := by decide +kernel
theorem dX3_draftReplaced_25 : decode cX3_draftReplaced 25 = .ok (.aload_n 2, 1) := by decide +kernel
theorem dX3_draftReplaced_26 : decode cX3_draftReplaced 26 = .ok (.invokevirtual 63, 3) := by decide +kernel
theorem dX3_draftReplaced_29 : decode cX3_draftReplaced 29 = .ok (.if_icmp .ge 71, 3) := by decide +kernel
theorem dX3_draftReplaced_32 : decode cX3_draftReplaced 32 = .ok (.iload 5, 2) := by decide +kernel
theorem dX3_draftReplaced_34 : decode cX3_draftReplaced 34 = .ok (.iload 4, 2) := by decide +kernel
theorem dX3_draftReplaced_36 : decode cX3_draftReplaced 36 = .ok (.if_icmp .ge 6, 3) := by decide +kernel
theorem dX3_draftReplaced_39 : decode cX3_draftReplaced 39 = .ok (.goto 55, 3) := by decide +kernel
theorem dX3_draftReplaced_42 : decode cX3_draftReplaced 42 = .ok (.aload_n 2, 1) := by decide +kernel
theorem dX3_draftReplaced_43 : decode cX3_draftReplaced 43 = .ok (.iload 5, 2) := by decide +kernel
theorem dX3_draftReplaced_45 : decode cX3_draftReplaced 45 = .ok (.aload_n 0, 1) := by decide +kernel
theorem dX3_draftReplaced_46 : decode cX3_draftReplaced 46 = .ok (.getfield 21, 3) := by decide +kernel
theorem dX3_draftReplaced_49 : decode cX3_draftReplaced 49 = .ok (.invokevirtual 109, 3) := by decide +kernel
theorem dX3_draftReplaced_52 : decode cX3_draftReplaced 52 = .ok (.ifCond .eq 29, 3) := by decide +kernel
theorem dX3_draftReplaced_55 : decode cX3_draftReplaced 55 = .ok (.aload_n 0, 1) := by decide +kernel
theorem dX3_draftReplaced_56 : decode cX3_draftReplaced 56 = .ok (.getfield 32, 3) := by decide +kernel
theorem dX3_draftReplaced_59 : decode cX3_draftReplaced 59 = .ok (.iload_n 1, 1) := by decide +kernel
theorem dX3_draftReplaced_60 : decode cX3_draftReplaced 60 = .ok (.invokevirtual 60, 3) := by decide +kernel
theorem dX3_draftReplaced_63 : decode cX3_draftReplaced 63 = .ok (.iinc 3 1, 3) := by decide +kernel
theorem dX3_draftReplaced_66 : decode cX3_draftReplaced 66 = .ok (.iload 5, 2) := by decide +kernel
theorem dX3_draftReplaced_68 : decode cX3_draftReplaced 68 = .ok (.aload_n 0, 1) := by decide +kernel
theorem dX3_draftReplaced_69 : decode cX3_draftReplaced 69 = .ok (.getfield 21, 3) := by decide +kernel
theorem dX3_draftReplaced_72 : decode cX3_draftReplaced 72 = .ok (.invokevirtual 63, 3) := by decide +kernel
theorem dX3_draftReplaced_75 : decode cX3_draftReplaced 75 = .ok (.iadd, 1) := by decide +kernel
theorem dX3_draftReplaced_76 : decode cX3_draftReplaced 76 = .ok (.istore 4, 2) := by decide +kernel
theorem dX3_draftReplaced_78 : decode cX3_draftReplaced 78 = .ok (.goto 16, 3) := by decide +kernel
theorem dX3_draftReplaced_81 : decode cX3_draftReplaced 81 = .ok (.aload_n 0, 1) := by decide +kernel
theorem dX3_draftReplaced_82 : decode cX3_draftReplaced 82 = .ok (.getfield 32, 3) := by decide +kernel
theorem dX3_draftReplaced_85 : decode cX3_draftReplaced 85 = .ok (.aload_n 2, 1) := by decide +kernel
theorem dX3_draftReplaced_86 : decode cX3_draftReplaced 86 = .ok (.iload 5, 2) := by decide +kernel
theorem dX3_draftReplaced_88 : decode cX3_draftReplaced 88 = .ok (.invokevirtual 81, 3) := by decide +kernel
theorem dX3_draftReplaced_91 : decode cX3_draftReplaced 91 = .ok (.invokevirtual 60, 3) := by decide +kernel
theorem dX3_draftReplaced_94 : decode cX3_draftReplaced 94 = .ok (.iinc 5 1, 3) := by decide +kernel
theorem dX3_draftReplaced_97 : decode cX3_draftReplaced 97 = .ok (.goto (-74), 3) := by decide +kernel
theorem dX3_draftReplaced_100 : decode cX3_draftReplaced 100 = .ok (.iload_n 3, 1) := by decide +kernel
theorem dX3_draftReplaced_101 : decode cX3_draftReplaced 101 = .ok (.ireturn, 1) := by decide +kernel
set_option maxRecDepth 20000 in
theorem ggX3_differentCharacters_X0_present : GoodIn wsX3_differentCharacters wsX0_present := goodIn_r _ [7, 8, 9, 30, 31, 32, 33] (by decide +kernel) (by decide +kernel)
set_option maxRecDepth 20000 in
theorem gX3_differentCharacters_X0_present : GoodIn wsX3_differentCharacters (wsV RX3 39 RX0 yX0_present wsX0_present) := goodIn_app (goodIn_of _ (by decide +kernel)) ggX3_differentCharacters_X0_present
set_option maxRecDepth 20000 in
theorem ggX3_differentCharacters_J7_fill_53178 : GoodIn wsX3_differentCharacters wsJ7_fill_53178 := goodIn_r _ [13] (by decide +kernel) (by decide +kernel)
set_option maxRecDepth 20000 in
theorem gX3_differentCharacters_J7_fill_53178 : GoodIn wsX3_differentCharacters (va_wsS RX3 145 yJ7_fill_53178 wsJ7_fill_53178) := goodIn_app (goodIn_of _ (by decide +kernel)) ggX3_differentCharacters_J7_fill_53178
set_option maxRecDepth 20000 in
theorem ggX3_differentCharacters_X2_size : GoodIn wsX3_differentCharacters wsX2_size := goodIn_r _ [18, 19, 34, 35] (by decide +kernel) (by decide +kernel)
set_option maxRecDepth 20000 in
theorem gX3_differentCharacters_X2_size : GoodIn wsX3_differentCharacters (wsV RX3 63 RX2 yX2_size wsX2_size) := goodIn_app (goodIn_of _ (by decide +kernel)) ggX3_differentCharacters_X2_size
set_option maxRecDepth 20000 in
theorem ggX3_differentCharacters_X2_get : GoodIn wsX3_differentCharacters wsX2_get := goodIn_r _ [23, 24, 34, 35] (by decide +kernel) (by decide +kernel)
set_option maxRecDepth 20000 in
theorem gX3_differentCharacters_X2_get : GoodIn wsX3_differentCharacters (wsV RX3 81 RX2 yX2_get wsX2_get) := goodIn_app (goodIn_of _ (by decide +kernel)) ggX3_differentCharacters_X2_get
theorem dX3_differentCharacters_0 : decode cX3_differentCharacters 0 = .ok (.aload_n 0, 1) := by decide +kernel
theorem dX3_differentCharacters_1 : decode cX3_differentCharacters 1 = .ok (.getfield 10, 3) := by decide +kernel
theorem dX3_differentCharacters_4 : decode cX3_differentCharacters 4 = .ok (.invokevirtual 39, 3) := by decide +kernel
theorem dX3_differentCharacters_7 : decode cX3_differentCharacters 7 = .ok (.astore_n 1, 1) := by decide +kernel
theorem dX3_differentCharacters_8 : decode cX3_differentCharacters 8 = .ok (.aload_n 0, 1) := by decide +kernel
theorem dX3_differentCharacters_9 : decode cX3_differentCharacters 9 = .ok (.getfield 35, 3) := by decide +kernel
theorem dX3_differentCharacters_12 : decode cX3_differentCharacters 12 = .ok (.iconst 0, 1) := by decide +kernel
theorem dX3_differentCharacters_13 : decode cX3_differentCharacters 13 = .ok (.invokestatic 145, 3) := by decide +kernel
theorem dX3_differentCharacters_16 : decode cX3_differentCharacters 16 = .ok (.iconst 0, 1) := by decide +kernel
theorem dX3_differentCharacters_17 : decode cX3_differentCharacters 17 = .ok (.istore_n 2, 1) := by decide +kernel
theorem dX3_differentCharacters_18 : decode cX3_differentCharacters 18 = .ok (.iconst 0, 1) := by decide +kernel
theorem dX3_differentCharacters_19 : decode cX3_differentCharacters 19 = .ok (.istore_n 3, 1) := by decide +kernel
theorem dX3_differentCharacters_20 : decode cX3_differentCharacters 20 = .ok (.iload_n 3, 1) := by decide +kernel
theorem dX3_differentCharacters_21 : decode cX3_differentCharacters 21 = .ok (.aload_n 1, 1) := by decide +kernel
theorem dX3_differentCharacters_22 : decode cX3_differentCharacters 22 = .ok (.invokevirtual 63, 3) := by decide +kernel
theorem dX3_differentCharacters_25 : decode cX3_differentCharacters 25 = .ok (.if_icmp .ge 40, 3) := by decide +kernel
theorem dX3_differentCharacters_28 : decode cX3_differentCharacters 28 = .ok (.aload_n 1, 1) := by decide +kernel
theorem dX3_differentCharacters_29 : decode cX3_differentCharacters 29 = .ok (.iload_n 3, 1) := by decide +kernel
theorem dX3_differentCharacters_30 : decode cX3_differentCharacters 30 = .ok (.invokevirtual 81, 3) := by decide +kernel
theorem dX3_differentCharacters_33 : decode cX3_differentCharacters 33 = .ok (.istore 4, 2) := by decide +kernel
theorem dX3_differentCharacters_35 : decode cX3_differentCharacters 35 = .ok (.aload_n 0, 1) := by decide +kernel
theorem dX3_differentCharacters_36 : decode cX3_differentCharacters 36 = .ok (.getfield 35, 3) := by decide +kernel
theorem dX3_differentCharacters_39 : decode cX3_differentCharacters 39 = .ok (.iload 4, 2) := by decide +kernel
theorem dX3_differentCharacters_41 : decode cX3_differentCharacters 41 = .ok (.iaload, 1) := by decide +kernel
theorem dX3_differentCharacters_42 : decode cX3_differentCharacters 42 = .ok (.ifCond .ne 6, 3) := by decide +kernel
theorem dX3_differentCharacters_45 : decode cX3_differentCharacters 45 = .ok (.iinc 2 1, 3) := by decide +kernel
theorem dX3_differentCharacters_48 : decode cX3_differentCharacters 48 = .ok (.aload_n 0, 1) := by decide +kernel
theorem dX3_differentCharacters_49 : decode cX3_differentCharacters 49 = .ok (.getfield 35, 3) := by decide +kernel
theorem dX3_differentCharacters_52 : decode cX3_differentCharacters 52 = .ok (.iload 4, 2) := by decide +kernel
theorem dX3_differentCharacters_54 : decode cX3_differentCharacters 54 = .ok (.dup2, 1) := by decide +kernel
theorem dX3_differentCharacters_55 : decode cX3_differentCharacters 55 = .ok (.iaload, 1) := by decide +kernel
theorem dX3_differentCharacters_56 : decode cX3_differentCharacters 56 = .ok (.iconst 1, 1) := by decide +kernel
theorem dX3_differentCharacters_57 : decode cX3_differentCharacters 57 = .ok (.iadd, 1) := by decide +kernel
theorem dX3_differentCharacters_58 : decode cX3_differentCharacters 58 = .ok (.iastore, 1) := by decide +kernel
theorem dX3_differentCharacters_59 : decode cX3_differentCharacters 59 = .ok (.iinc 3 1, 3) := by decide +kernel
theorem dX3_differentCharacters_62 : decode cX3_differentCharacters 62 = .ok (.goto (-42), 3) := by decide +kernel
theorem dX3_differentCharacters_65 : decode cX3_differentCharacters 65 = .ok (.iload_n 2, 1) := by decide +kernel
theorem dX3_differentCharacters_66 : decode cX3_differentCharacters 66 = .ok (.ireturn, 1) := by decide +kernel
set_option maxRecDepth 20000 in
theorem ggX3_refuseNoPlace_X2_size : GoodIn wsX3_refuseNoPlace wsX2_size := goodIn_r _ [7, 8, 9, 10] (by decide +kernel) (by decide +kernel)
set_option maxRecDepth 20000 in
theorem gX3_refuseNoPlace_X2_size : GoodIn wsX3_refuseNoPlace (wsV RX3 63 RX2 yX2_size wsX2_size) := goodIn_app (goodIn_of _ (by decide +kernel)) ggX3_refuseNoPlace_X2_size
theorem dX3_refuseNoPlace_0 : decode cX3_refuseNoPlace 0 = .ok (.iload_n 0, 1) := by decide +kernel
theorem dX3_refuseNoPlace_1 : decode cX3_refuseNoPlace 1 = .ok (.ifCond .lt 11, 3) := by decide +kernel
theorem dX3_refuseNoPlace_4 : decode cX3_refuseNoPlace 4 = .ok (.iload_n 0, 1) := by decide +kernel
theorem dX3_refuseNoPlace_5 : decode cX3_refuseNoPlace 5 = .ok (.aload_n 1, 1) := by decide +kernel
theorem dX3_refuseNoPlace_6 : decode cX3_refuseNoPlace 6 = .ok (.invokevirtual 63, 3) := by decide +kernel
theorem dX3_refuseNoPlace_9 : decode cX3_refuseNoPlace 9 = .ok (.if_icmp .le 13, 3) := by decide +kernel
theorem dX3_refuseNoPlace_12 : decode cX3_refuseNoPlace 12 = .ok (.new 74, 3) := by decide +kernel
theorem dX3_refuseNoPlace_15 : decode cX3_refuseNoPlace 15 = .ok (.dup, 1) := by decide +kernel
theorem dX3_refuseNoPlace_16 : decode cX3_refuseNoPlace 16 = .ok (.ldc 151, 2) := by decide +kernel
theorem dX3_refuseNoPlace_18 : decode cX3_refuseNoPlace 18 = .ok (.invokespecial 78, 3) := by decide +kernel
theorem dX3_refuseNoPlace_21 : decode cX3_refuseNoPlace 21 = .ok (.athrow, 1) := by decide +kernel
theorem dX3_refuseNoPlace_22 : decode cX3_refuseNoPlace 22 = .ok (.return_, 1) := by decide +kernel
theorem dX3_refuseNoCharacter_0 : decode cX3_refuseNoCharacter 0 = .ok (.iload_n 0, 1) := by decide +kernel
theorem dX3_refuseNoCharacter_1 : decode cX3_refuseNoCharacter 1 = .ok (.ifCond .lt 10, 3) := by decide +kernel
theorem dX3_refuseNoCharacter_4 : decode cX3_refuseNoCharacter 4 = .ok (.iload_n 0, 1) := by decide +kernel
theorem dX3_refuseNoCharacter_5 : decode cX3_refuseNoCharacter 5 = .ok (.sipush 256, 3) := by decide +kernel
theorem dX3_refuseNoCharacter_8 : decode cX3_refuseNoCharacter 8 = .ok (.if_icmp .lt 13, 3) := by decide +kernel
theorem dX3_refuseNoCharacter_11 : decode cX3_refuseNoCharacter 11 = .ok (.new 153, 3) := by decide +kernel
theorem dX3_refuseNoCharacter_14 : decode cX3_refuseNoCharacter 14 = .ok (.dup, 1) := by decide +kernel
theorem dX3_refuseNoCharacter_15 : decode cX3_refuseNoCharacter 15 = .ok (.ldc 155, 2) := by decide +kernel
theorem dX3_refuseNoCharacter_17 : decode cX3_refuseNoCharacter 17 = .ok (.invokespecial 157, 3) := by decide +kernel
theorem dX3_refuseNoCharacter_20 : decode cX3_refuseNoCharacter 20 = .ok (.athrow, 1) := by decide +kernel
theorem dX3_refuseNoCharacter_21 : decode cX3_refuseNoCharacter 21 = .ok (.return_, 1) := by decide +kernel
set_option maxRecDepth 20000 in
theorem ggX3_refuseNoPart_X2_size : GoodIn wsX3_refuseNoPart wsX2_size := goodIn_r _ [7, 8, 9, 10] (by decide +kernel) (by decide +kernel)
set_option maxRecDepth 20000 in
theorem gX3_refuseNoPart_X2_size : GoodIn wsX3_refuseNoPart (wsV RX3 63 RX2 yX2_size wsX2_size) := goodIn_app (goodIn_of _ (by decide +kernel)) ggX3_refuseNoPart_X2_size
theorem dX3_refuseNoPart_0 : decode cX3_refuseNoPart 0 = .ok (.iload_n 1, 1) := by decide +kernel
theorem dX3_refuseNoPart_1 : decode cX3_refuseNoPart 1 = .ok (.ifCond .lt 13, 3) := by decide +kernel
theorem dX3_refuseNoPart_4 : decode cX3_refuseNoPart 4 = .ok (.iload_n 1, 1) := by decide +kernel
theorem dX3_refuseNoPart_5 : decode cX3_refuseNoPart 5 = .ok (.aload_n 2, 1) := by decide +kernel
theorem dX3_refuseNoPart_6 : decode cX3_refuseNoPart 6 = .ok (.invokevirtual 63, 3) := by decide +kernel
theorem dX3_refuseNoPart_9 : decode cX3_refuseNoPart 9 = .ok (.iload_n 0, 1) := by decide +kernel
theorem dX3_refuseNoPart_10 : decode cX3_refuseNoPart 10 = .ok (.isub, 1) := by decide +kernel
theorem dX3_refuseNoPart_11 : decode cX3_refuseNoPart 11 = .ok (.if_icmp .le 13, 3) := by decide +kernel
theorem dX3_refuseNoPart_14 : decode cX3_refuseNoPart 14 = .ok (.new 153, 3) := by decide +kernel
theorem dX3_refuseNoPart_17 : decode cX3_refuseNoPart 17 = .ok (.dup, 1) := by decide +kernel
theorem dX3_refuseNoPart_18 : decode cX3_refuseNoPart 18 = .ok (.ldc 158, 2) := by decide +kernel
theorem dX3_refuseNoPart_20 : decode cX3_refuseNoPart 20 = .ok (.invokespecial 157, 3) := by decide +kernel
theorem dX3_refuseNoPart_23 : decode cX3_refuseNoPart 23 = .ok (.athrow, 1) := by decide +kernel
theorem dX3_refuseNoPart_24 : decode cX3_refuseNoPart 24 = .ok (.return_, 1) := by decide +kernel
set_option maxRecDepth 20000 in
theorem ggX3_refuseTooLong_X2_size : GoodIn wsX3_refuseTooLong wsX2_size := goodIn_r _ [7, 8, 9, 10] (by decide +kernel) (by decide +kernel)
set_option maxRecDepth 20000 in
theorem gX3_refuseTooLong_X2_size : GoodIn wsX3_refuseTooLong (wsV RX3 63 RX2 yX2_size wsX2_size) := goodIn_app (goodIn_of _ (by decide +kernel)) ggX3_refuseTooLong_X2_size
theorem dX3_refuseTooLong_0 : decode cX3_refuseTooLong 0 = .ok (.iload_n 0, 1) := by decide +kernel
theorem dX3_refuseTooLong_1 : decode cX3_refuseTooLong 1 = .ok (.sipush 240, 3) := by decide +kernel
theorem dX3_refuseTooLong_4 : decode cX3_refuseTooLong 4 = .ok (.aload_n 1, 1) := by decide +kernel
theorem dX3_refuseTooLong_5 : decode cX3_refuseTooLong 5 = .ok (.invokevirtual 63, 3) := by decide +kernel
theorem dX3_refuseTooLong_8 : decode cX3_refuseTooLong 8 = .ok (.isub, 1) := by decide +kernel
theorem dX3_refuseTooLong_9 : decode cX3_refuseTooLong 9 = .ok (.if_icmp .le 13, 3) := by decide +kernel
theorem dX3_refuseTooLong_12 : decode cX3_refuseTooLong 12 = .ok (.new 104, 3) := by decide +kernel
theorem dX3_refuseTooLong_15 : decode cX3_refuseTooLong 15 = .ok (.dup, 1) := by decide +kernel
theorem dX3_refuseTooLong_16 : decode cX3_refuseTooLong 16 = .ok (.ldc 160, 2) := by decide +kernel
theorem dX3_refuseTooLong_18 : decode cX3_refuseTooLong 18 = .ok (.invokespecial 108, 3) := by decide +kernel
theorem dX3_refuseTooLong_21 : decode cX3_refuseTooLong 21 = .ok (.athrow, 1) := by decide +kernel
theorem dX3_refuseTooLong_22 : decode cX3_refuseTooLong 22 = .ok (.return_, 1) := by decide +kernel
set_option maxRecDepth 20000 in
theorem ggX3_refuseNoWord_X1_size : GoodIn wsX3_refuseNoWord wsX1_size := goodIn_r _ [8, 9, 15, 16, 17] (by decide +kernel) (by decide +kernel)
set_option maxRecDepth 20000 in
theorem gX3_refuseNoWord_X1_size : GoodIn wsX3_refuseNoWord (wsV RX3 122 RX1 yX1_size wsX1_size) := goodIn_app (goodIn_of _ (by decide +kernel)) ggX3_refuseNoWord_X1_size
theorem dX3_refuseNoWord_0 : decode cX3_refuseNoWord 0 = .ok (.iload_n 1, 1) := by decide +kernel
theorem dX3_refuseNoWord_1 : decode cX3_refuseNoWord 1 = .ok (.ifCond .lt 14, 3) := by decide +kernel
theorem dX3_refuseNoWord_4 : decode cX3_refuseNoWord 4 = .ok (.iload_n 1, 1) := by decide +kernel
theorem dX3_refuseNoWord_5 : decode cX3_refuseNoWord 5 = .ok (.aload_n 0, 1) := by decide +kernel
theorem dX3_refuseNoWord_6 : decode cX3_refuseNoWord 6 = .ok (.getfield 28, 3) := by decide +kernel
theorem dX3_refuseNoWord_9 : decode cX3_refuseNoWord 9 = .ok (.invokevirtual 122, 3) := by decide +kernel
theorem dX3_refuseNoWord_12 : decode cX3_refuseNoWord 12 = .ok (.if_icmp .lt 13, 3) := by decide +kernel
theorem dX3_refuseNoWord_15 : decode cX3_refuseNoWord 15 = .ok (.new 74, 3) := by decide +kernel
theorem dX3_refuseNoWord_18 : decode cX3_refuseNoWord 18 = .ok (.dup, 1) := by decide +kernel
theorem dX3_refuseNoWord_19 : decode cX3_refuseNoWord 19 = .ok (.ldc 162, 2) := by decide +kernel
theorem dX3_refuseNoWord_21 : decode cX3_refuseNoWord 21 = .ok (.invokespecial 78, 3) := by decide +kernel
theorem dX3_refuseNoWord_24 : decode cX3_refuseNoWord 24 = .ok (.athrow, 1) := by decide +kernel
theorem dX3_refuseNoWord_25 : decode cX3_refuseNoWord 25 = .ok (.return_, 1) := by decide +kernel
